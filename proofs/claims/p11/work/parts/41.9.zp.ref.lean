section
section XPR
/-- what the reference has laid out -/
def RA (W : Nat → Bool) (m : Nat) (h : xh_H) : Prop := xg 0 h.2.1 39 4 = nI m ∧ xg 0 h.2.1 39 35 = nI (2 ^ m) ∧ ∀ s, s < 2 ^ m → xg 0 h.2.1 53 s = bl (W s)
section
variable {W : Nat → Bool} {m : Nat} {h : xh_H}
theorem rgf {s : Nat} (A : RA W m h) (m12 : m ≤ 12) (hs : s < 2 ^ m) : xe_c .ge (nI s) (xg 0 h.2.1 39 35) = false := by
  have p12 : 2 ^ m ≤ 4096 := show 2 ^ m ≤ 2 ^ 12 from Nat.pow_le_pow_right (by decide) m12
  rw [A.2.1]
  exact nge_f (by omega) (by omega) hs
theorem rgt (A : RA W m h) (m12 : m ≤ 12) : xe_c .ge (nI (2 ^ m)) (xg 0 h.2.1 39 35) = true := by
  have p12 : 2 ^ m ≤ 4096 := show 2 ^ m ≤ 2 ^ 12 from Nat.pow_le_pow_right (by decide) m12
  rw [A.2.1]
  exact nge_t (by omega) (by omega) (Nat.le_refl _)
theorem rb0 {s a : Nat} (m12 : m ≤ 12) (hs : s < 2 ^ m) (ha : a < m) : (nI s >>> (nI a &&& 31)) &&& Int32.ofInt 1 = bl (s.testBit a) := by
  have p12 : 2 ^ m ≤ 4096 := show 2 ^ m ≤ 2 ^ 12 from Nat.pow_le_pow_right (by decide) m12
  rw [nI_b0 (by omega) (by omega), bl_nI]
theorem rw0 {s : Nat} (A : RA W m h) (m12 : m ≤ 12) (hs : s < 2 ^ m) : xg 0 h.2.1 53 (nI s).toNatClampNeg = bl (W s) := by
  have p12 : 2 ^ m ≤ 4096 := show 2 ^ m ≤ 2 ^ 12 from Nat.pow_le_pow_right (by decide) m12
  rw [nI_clamp (by omega)]
  exact A.2.2 s hs
theorem rw1 {s a : Nat} (A : RA W m h) (m12 : m ≤ 12) (hs : s < 2 ^ m) (ha : a < m) : xg 0 h.2.1 53 (nI s ||| (Int32.ofInt 1 <<< (nI a &&& 31))).toNatClampNeg = bl (W (s ||| 2 ^ a)) := by
  rw [nI_o1 (by omega)]
  exact rw0 A m12 (or_p hs ha)
theorem rw2 {s a b : Nat} (A : RA W m h) (m12 : m ≤ 12) (hs : s < 2 ^ m) (ha : a < m) (hb : b < m) : xg 0 h.2.1 53 ((nI s ||| (Int32.ofInt 1 <<< (nI a &&& 31))) ||| (Int32.ofInt 1 <<< (nI b &&& 31))).toNatClampNeg = bl (W ((s ||| 2 ^ a) ||| 2 ^ b)) := by
  rw [nI_o1 (by omega)]
  exact rw1 A m12 (or_p hs ha) hb
theorem bn {b : Bool} {x : Int32} (e : x = bl b) : xe_c .ne x 0 = b := by rw [e]; cases b <;> rfl
theorem be' {b : Bool} {x : Int32} (e : x = bl b) : xe_c .eq x 0 = !b := by rw [e]; cases b <;> rfl
set_option maxRecDepth 100000 in
set_option maxHeartbeats 4000000 in
/-- X10.turnsOf -/
theorem tno_l {a : Nat} (A : RA W m h) (m12 : m ≤ 12) (ha : a < m) (hq : a_rq a_tb h) : ∀ (n f s : Nat), s + n = 2 ^ m → xq f xi_X10_turnsOf xmi_X10_turnsOf 4 [(0, .ref 39), (1, .int (nI a)), (2, .int (nI (cnt (tw W a) s))), (3, .int (nI s))] [] h (fun v h' => h = h' ∧ v = some (.int (nI (cnt (tw W a) (2 ^ m))))) := by
  intro n
  induction n with
  | zero =>
    intro f s sn
    have e : s = 2 ^ m := by omega
    subst e
    refine xq_n 52 [] [] [.int (nI (cnt (tw W a) (2 ^ m)))] h [true] 60 hq rfl ⟨rgt A m12, trivial⟩ (fun _ => ?_)
    exact xq_ret rfl rfl rfl ⟨rfl, rfl⟩
  | succ n ih =>
    intro f s sn
    have r := ih f (s + 1) (by omega)
    have hs : s < 2 ^ m := by omega
    have g0 := rgf A m12 hs
    have g1 := bn (rb0 m12 hs ha)
    have g2 := bn (rw0 A m12 hs)
    have g3 := be' (rw1 A m12 hs ha)
    cases c1 : s.testBit a with
    | true =>
      rw [c1] at g1
      have z : tw W a s = false := by unfold tw; rw [c1]; rfl
      rw [cnt_f z] at r
      refine xq_n 4 [0, 1, 2, 3] [(0, .ref 39), (1, .int (nI a)), (2, .int (nI (cnt (tw W a) s))), (3, .int (nI s + Int32.ofInt 1))] [] h [false, true] 60 hq rfl ⟨g0, g1, trivial⟩ (fun _ => ?_)
      rw [nI_1']
      exact r
    | false =>
      rw [c1] at g1
      cases c2 : W s with
      | true =>
        rw [c2] at g2
        have z : tw W a s = false := by unfold tw; rw [c1, c2]; rfl
        rw [cnt_f z] at r
        refine xq_n 4 [0, 1, 2, 3] [(0, .ref 39), (1, .int (nI a)), (2, .int (nI (cnt (tw W a) s))), (3, .int (nI s + Int32.ofInt 1))] [] h [false, false, true] 60 hq rfl ⟨g0, g1, g2, trivial⟩ (fun _ => ?_)
        rw [nI_1']
        exact r
      | false =>
        rw [c2] at g2
        cases c3 : W (s ||| 2 ^ a) with
        | false =>
          rw [c3] at g3
          have z : tw W a s = false := by unfold tw; rw [c1, c2, c3]; rfl
          rw [cnt_f z] at r
          refine xq_n 4 [0, 1, 2, 3] [(0, .ref 39), (1, .int (nI a)), (2, .int (nI (cnt (tw W a) s))), (3, .int (nI s + Int32.ofInt 1))] [] h [false, false, false, true] 60 hq rfl ⟨g0, g1, g2, g3, trivial⟩ (fun _ => ?_)
          rw [nI_1']
          exact r
        | true =>
          rw [c3] at g3
          have z : tw W a s = true := by unfold tw; rw [c1, c2, c3]; rfl
          rw [cnt_t z] at r
          refine xq_n 4 [0, 1, 2, 3] [(0, .ref 39), (1, .int (nI a)), (2, .int (nI (cnt (tw W a) s) + Int32.ofInt 1)), (3, .int (nI s + Int32.ofInt 1))] [] h [false, false, false, false] 60 hq rfl ⟨g0, g1, g2, g3, trivial⟩ (fun _ => ?_)
          rw [nI_1', nI_1']
          exact r
theorem tno_q {f a : Nat} (A : RA W m h) (m12 : m ≤ 12) (ha : a < m) (hq : a_rq a_tb h) : xq f xi_X10_turnsOf xmi_X10_turnsOf 0 [(0, .ref 39), (1, .int (nI a))] [] h (fun v h' => h = h' ∧ v = some (.int (nI (cnt (tw W a) (2 ^ m))))) := by
  refine xq_n 4 [0, 1, 2, 3] [(0, .ref 39), (1, .int (nI a)), (2, .int (Int32.ofInt 0)), (3, .int (Int32.ofInt 0))] [] h [] 60 hq rfl trivial (fun _ => ?_)
  exact tno_l A m12 ha hq (2 ^ m) f 0 (by omega)
set_option maxRecDepth 100000 in
set_option maxHeartbeats 4000000 in
/-- X10.ally, how often with one other -/
theorem al_in {a b : Nat} {x2 x3 : Int32} (A : RA W m h) (m12 : m ≤ 12) (ha : a < m) (hb : b < m) (hq : a_rq a_tb h) {Q : Option Value → xh_H → Prop} (K : ∀ f, xq f xi_X10_ally xmi_X10_ally 135 [(0, .ref 39), (1, .int (nI a)), (2, .int x2), (3, .int x3), (4, .int (nI b)), (5, .int (nI (cnt (tg W a b) (2 ^ m))))] [] h Q) : ∀ (n f s : Nat), s + n = 2 ^ m → xq f xi_X10_ally xmi_X10_ally 50 [(0, .ref 39), (1, .int (nI a)), (2, .int x2), (3, .int x3), (4, .int (nI b)), (5, .int (nI (cnt (tg W a b) s))), (6, .int (nI s))] [] h Q := by
  intro n
  induction n with
  | zero =>
    intro f s sn
    have e : s = 2 ^ m := by omega
    subst e
    refine xq_n 135 [0, 1, 2, 3, 4, 5] [(0, .ref 39), (1, .int (nI a)), (2, .int x2), (3, .int x3), (4, .int (nI b)), (5, .int (nI (cnt (tg W a b) (2 ^ m))))] [] h [true] 60 hq rfl ⟨rgt A m12, trivial⟩ (fun _ => ?_)
    exact K f
  | succ n ih =>
    intro f s sn
    have r := ih f (s + 1) (by omega)
    have hs : s < 2 ^ m := by omega
    have g0 := rgf A m12 hs
    have g1 := bn (rb0 m12 hs ha)
    have g2 := bn (rb0 m12 hs hb)
    have g3 := bn (rw1 A m12 hs ha)
    have g4 := bn (rw1 A m12 hs hb)
    have g5 := be' (rw2 A m12 hs ha hb)
    cases c1 : s.testBit a with
    | true =>
      rw [c1] at g1
      have z : tg W a b s = false := by unfold tg; rw [c1]; rfl
      rw [cnt_f z] at r
      refine xq_n 50 [0, 1, 2, 3, 4, 5, 6] [(0, .ref 39), (1, .int (nI a)), (2, .int x2), (3, .int x3), (4, .int (nI b)), (5, .int (nI (cnt (tg W a b) s))), (6, .int (nI s + Int32.ofInt 1))] [] h [false, true] 80 hq rfl ⟨g0, g1, trivial⟩ (fun _ => ?_)
      rw [nI_1']
      exact r
    | false =>
      rw [c1] at g1
      cases c2 : s.testBit b with
      | true =>
        rw [c2] at g2
        have z : tg W a b s = false := by unfold tg; rw [c1, c2]; rfl
        rw [cnt_f z] at r
        refine xq_n 50 [0, 1, 2, 3, 4, 5, 6] [(0, .ref 39), (1, .int (nI a)), (2, .int x2), (3, .int x3), (4, .int (nI b)), (5, .int (nI (cnt (tg W a b) s))), (6, .int (nI s + Int32.ofInt 1))] [] h [false, false, true] 80 hq rfl ⟨g0, g1, g2, trivial⟩ (fun _ => ?_)
        rw [nI_1']
        exact r
      | false =>
        rw [c2] at g2
        cases c3 : W (s ||| 2 ^ a) with
        | true =>
          rw [c3] at g3
          have z : tg W a b s = false := by unfold tg; rw [c1, c2, c3]; cases W ((s ||| 2 ^ a) ||| 2 ^ b) <;> rfl
          rw [cnt_f z] at r
          refine xq_n 50 [0, 1, 2, 3, 4, 5, 6] [(0, .ref 39), (1, .int (nI a)), (2, .int x2), (3, .int x3), (4, .int (nI b)), (5, .int (nI (cnt (tg W a b) s))), (6, .int (nI s + Int32.ofInt 1))] [] h [false, false, false, true] 80 hq rfl ⟨g0, g1, g2, g3, trivial⟩ (fun _ => ?_)
          rw [nI_1']
          exact r
        | false =>
          rw [c3] at g3
          cases c4 : W (s ||| 2 ^ b) with
          | true =>
            rw [c4] at g4
            have z : tg W a b s = false := by unfold tg; rw [c1, c2, c3, c4]; cases W ((s ||| 2 ^ a) ||| 2 ^ b) <;> rfl
            rw [cnt_f z] at r
            refine xq_n 50 [0, 1, 2, 3, 4, 5, 6] [(0, .ref 39), (1, .int (nI a)), (2, .int x2), (3, .int x3), (4, .int (nI b)), (5, .int (nI (cnt (tg W a b) s))), (6, .int (nI s + Int32.ofInt 1))] [] h [false, false, false, false, true] 80 hq rfl ⟨g0, g1, g2, g3, g4, trivial⟩ (fun _ => ?_)
            rw [nI_1']
            exact r
          | false =>
            rw [c4] at g4
            cases c5 : W ((s ||| 2 ^ a) ||| 2 ^ b) with
            | false =>
              rw [c5] at g5
              have z : tg W a b s = false := by unfold tg; rw [c1, c2, c3, c4, c5]; rfl
              rw [cnt_f z] at r
              refine xq_n 50 [0, 1, 2, 3, 4, 5, 6] [(0, .ref 39), (1, .int (nI a)), (2, .int x2), (3, .int x3), (4, .int (nI b)), (5, .int (nI (cnt (tg W a b) s))), (6, .int (nI s + Int32.ofInt 1))] [] h [false, false, false, false, false, true] 80 hq rfl ⟨g0, g1, g2, g3, g4, g5, trivial⟩ (fun _ => ?_)
              rw [nI_1']
              exact r
            | true =>
              rw [c5] at g5
              have z : tg W a b s = true := by unfold tg; rw [c1, c2, c3, c4, c5]; rfl
              rw [cnt_t z] at r
              refine xq_n 50 [0, 1, 2, 3, 4, 5, 6] [(0, .ref 39), (1, .int (nI a)), (2, .int x2), (3, .int x3), (4, .int (nI b)), (5, .int (nI (cnt (tg W a b) s) + Int32.ofInt 1)), (6, .int (nI s + Int32.ofInt 1))] [] h [false, false, false, false, false, false] 80 hq rfl ⟨g0, g1, g2, g3, g4, g5, trivial⟩ (fun _ => ?_)
              rw [nI_1', nI_1']
              exact r
set_option maxRecDepth 100000 in
set_option maxHeartbeats 4000000 in
theorem al_out {a : Nat} {F : Nat → Nat} (hF : F = fun b => cnt (tg W a b) (2 ^ m)) (A : RA W m h) (m12 : m ≤ 12) (ha : a < m) (hq : a_rq a_tb h) : ∀ (j f n : Nat), n + j = m → xq f xi_X10_ally xmi_X10_ally 26 [(0, .ref 39), (1, .int (nI a)), (2, .int (alf F a n).1), (3, .int (alf F a n).2), (4, .int (nI n))] [] h (fun v h' => v = some (.int (alf F a m).1)) := by
  intro j
  induction j with
  | zero =>
    intro f n nj
    have e : n = m := by omega
    subst e
    refine xq_n 157 [] [] [.int (alf F a n).1] h [true] 60 hq rfl ⟨(show xe_c .ge (nI n) (xg 0 h.2.1 39 4) = true by rw [A.1]; exact nge_t (by omega) (by omega) (Nat.le_refl _)), trivial⟩ (fun _ => ?_)
    exact xq_ret rfl rfl rfl rfl
  | succ j ih =>
    intro f n nj
    have c0 : xe_c .ge (nI n) (xg 0 h.2.1 39 4) = false := by rw [A.1]; exact nge_f (by omega) (by omega) (by omega)
    have r := fun f => ih f (n + 1) (by omega)
    rw [alf_s] at r
    by_cases z : n = a
    · rw [if_pos z] at r
      refine xq_n 26 [0, 1, 2, 3, 4] [(0, .ref 39), (1, .int (nI a)), (2, .int (alf F a n).1), (3, .int (alf F a n).2), (4, .int (nI n + Int32.ofInt 1))] [] h [false, false] 60 hq rfl ⟨c0, nne_f (by omega) (by omega) z, trivial⟩ (fun _ => ?_)
      rw [nI_1']
      exact r f
    · rw [if_neg z] at r
      refine xq_n 50 [0, 1, 2, 3, 4, 5, 6] [(0, .ref 39), (1, .int (nI a)), (2, .int (alf F a n).1), (3, .int (alf F a n).2), (4, .int (nI n)), (5, .int (Int32.ofInt 0)), (6, .int (Int32.ofInt 0))] [] h [false, true] 60 hq rfl ⟨c0, nne_t (by omega) (by omega) z, trivial⟩ (fun _ => ?_)
      refine al_in A m12 ha (show n < m by omega) hq (fun f => ?_) (2 ^ m) f 0 (by omega)
      have eF : cnt (tg W a n) (2 ^ m) = F n := by rw [hF]
      rw [eF]
      cases c : xe_c .gt (nI (F n)) (alf F a n).2 with
      | true =>
        rw [c] at r
        refine xq_n 26 [0, 1, 2, 3, 4] [(0, .ref 39), (1, .int (nI a)), (2, .int (nI n)), (3, .int (nI (F n))), (4, .int (nI n + Int32.ofInt 1))] [] h [true] 60 hq rfl ⟨c, trivial⟩ (fun _ => ?_)
        rw [nI_1']
        exact r f
      | false =>
        rw [c] at r
        refine xq_n 26 [0, 1, 2, 3, 4] [(0, .ref 39), (1, .int (nI a)), (2, .int (alf F a n).1), (3, .int (alf F a n).2), (4, .int (nI n + Int32.ofInt 1))] [] h [false] 60 hq rfl ⟨c, trivial⟩ (fun _ => ?_)
        rw [nI_1']
        exact r f
/-- held -/
def hdv (x y : Bool) : Int32 := cond x (cond y 3 1) (cond y 2 0)
theorem hdv_2 {x y : Bool} : hdv x y &&& Int32.ofInt 2 = hdv false y := by cases x <;> cases y <;> decide
theorem hdv_1 {x y : Bool} : hdv x y &&& Int32.ofInt 1 = hdv x false := by cases x <;> cases y <;> decide
theorem be1 {b : Bool} {x : Int32} (e : x = bl b) : xe_c .eq x (Int32.ofInt 1) = b := by rw [e]; cases b <;> rfl
theorem bn1 {b : Bool} {x : Int32} (e : x = bl b) : xe_c .ne x (Int32.ofInt 1) = !b := by rw [e]; cases b <;> rfl
theorem aln_1 {P : Nat → Bool} {n : Nat} (h : P n = true) : aln P (n + 1) = aln P n := by show (aln P n && P n) = _; rw [h, Bool.and_true]
theorem aln_0 {P : Nat → Bool} {n : Nat} (h : P n = false) : aln P (n + 1) = false := by show (aln P n && P n) = _; rw [h, Bool.and_false]
set_option maxRecDepth 100000 in
set_option maxHeartbeats 4000000 in
/-- X10.held -/
theorem hel_l {a b : Nat} (A : RA W m h) (m12 : m ≤ 12) (ha : a < m) (hb : b < m) (hq : a_rq a_tb h) : ∀ (n f s : Nat), s + n = 2 ^ m → xq f xi_X10_held xmi_X10_held 5 [(0, .ref 39), (1, .int (nI a)), (2, .int (nI b)), (3, .int (hdv (aln (gp W a b) s) (aln (gp W b a) s))), (4, .int (nI s))] [] h (fun v h' => h = h' ∧ v = some (.int (hdv (aln (gp W a b) (2 ^ m)) (aln (gp W b a) (2 ^ m))))) := by
  intro n
  induction n with
  | zero =>
    intro f s sn
    have e : s = 2 ^ m := by omega
    subst e
    refine xq_n 98 [] [] [.int (hdv (aln (gp W a b) (2 ^ m)) (aln (gp W b a) (2 ^ m)))] h [true] 60 hq rfl ⟨rgt A m12, trivial⟩ (fun _ => ?_)
    exact xq_ret rfl rfl rfl ⟨rfl, rfl⟩
  | succ n ih =>
    intro f s sn
    have r := ih f (s + 1) (by omega)
    have hs : s < 2 ^ m := by omega
    have g0 := rgf A m12 hs
    have g1 := be1 (rb0 m12 hs ha)
    have g2 := bn1 (rb0 m12 hs hb)
    have ea := rw1 A m12 hs ha
    have eb := rw1 A m12 hs hb
    cases c1 : s.testBit a with
    | true =>
      rw [c1] at g1
      rw [aln_1 (show gp W a b s = true by unfold gp; rw [c1]; rfl), aln_1 (show gp W b a s = true by unfold gp; rw [c1]; cases s.testBit b <;> rfl)] at r
      refine xq_n 5 [0, 1, 2, 3, 4] [(0, .ref 39), (1, .int (nI a)), (2, .int (nI b)), (3, .int (hdv (aln (gp W a b) s) (aln (gp W b a) s))), (4, .int (nI s + Int32.ofInt 1))] [] h [false, true] 60 hq rfl ⟨g0, g1, trivial⟩ (fun _ => ?_)
      rw [nI_1']
      exact r
    | false =>
      rw [c1] at g1
      cases c2 : s.testBit b with
      | true =>
        rw [c2] at g2
        rw [aln_1 (show gp W a b s = true by unfold gp; rw [c1, c2]; rfl), aln_1 (show gp W b a s = true by unfold gp; rw [c2]; rfl)] at r
        refine xq_n 5 [0, 1, 2, 3, 4] [(0, .ref 39), (1, .int (nI a)), (2, .int (nI b)), (3, .int (hdv (aln (gp W a b) s) (aln (gp W b a) s))), (4, .int (nI s + Int32.ofInt 1))] [] h [false, false, false] 60 hq rfl ⟨g0, g1, g2, trivial⟩ (fun _ => ?_)
        rw [nI_1']
        exact r
      | false =>
        rw [c2] at g2
        refine xq_n 63 [0, 1, 2, 3, 4, 5, 6] [(0, .ref 39), (1, .int (nI a)), (2, .int (nI b)), (3, .int (hdv (aln (gp W a b) s) (aln (gp W b a) s))), (4, .int (nI s)), (5, .int (xg 0 h.2.1 53 (nI s ||| (Int32.ofInt 1 <<< (nI a &&& 31))).toNatClampNeg)), (6, .int (xg 0 h.2.1 53 (nI s ||| (Int32.ofInt 1 <<< (nI b &&& 31))).toNatClampNeg))] [] h [false, false, true] 60 hq rfl ⟨g0, g1, g2, trivial⟩ (fun _ => ?_)
        rw [ea, eb]
        cases ca : W (s ||| 2 ^ a) with
        | true =>
          cases cb : W (s ||| 2 ^ b) with
          | true =>
            rw [aln_1 (show gp W a b s = true by unfold gp; rw [c1, c2, ca, cb]; rfl), aln_1 (show gp W b a s = true by unfold gp; rw [c1, c2, ca, cb]; rfl)] at r
            refine xq_n 5 [0, 1, 2, 3, 4] [(0, .ref 39), (1, .int (nI a)), (2, .int (nI b)), (3, .int (hdv (aln (gp W a b) s) (aln (gp W b a) s))), (4, .int (nI s + Int32.ofInt 1))] [] h [false, true, false, true] 60 hq rfl ⟨rfl, rfl, rfl, rfl, trivial⟩ (fun _ => ?_)
            rw [nI_1']
            exact r
          | false =>
            rw [aln_1 (show gp W a b s = true by unfold gp; rw [c1, c2, ca, cb]; rfl), aln_0 (show gp W b a s = false by unfold gp; rw [c1, c2, ca, cb]; rfl)] at r
            refine xq_n 5 [0, 1, 2, 3, 4] [(0, .ref 39), (1, .int (nI a)), (2, .int (nI b)), (3, .int (hdv (aln (gp W a b) s) (aln (gp W b a) s) &&& Int32.ofInt 1)), (4, .int (nI s + Int32.ofInt 1))] [] h [true, false, false] 60 hq rfl ⟨rfl, rfl, rfl, trivial⟩ (fun _ => ?_)
            rw [nI_1', hdv_1]
            exact r
        | false =>
          cases cb : W (s ||| 2 ^ b) with
          | true =>
            rw [aln_0 (show gp W a b s = false by unfold gp; rw [c1, c2, ca, cb]; rfl), aln_1 (show gp W b a s = true by unfold gp; rw [c1, c2, ca, cb]; rfl)] at r
            refine xq_n 5 [0, 1, 2, 3, 4] [(0, .ref 39), (1, .int (nI a)), (2, .int (nI b)), (3, .int (hdv (aln (gp W a b) s) (aln (gp W b a) s) &&& Int32.ofInt 2)), (4, .int (nI s + Int32.ofInt 1))] [] h [false, false, true] 60 hq rfl ⟨rfl, rfl, rfl, trivial⟩ (fun _ => ?_)
            rw [nI_1', hdv_2]
            exact r
          | false =>
            rw [aln_1 (show gp W a b s = true by unfold gp; rw [c1, c2, ca, cb]; rfl), aln_1 (show gp W b a s = true by unfold gp; rw [c1, c2, ca, cb]; rfl)] at r
            refine xq_n 5 [0, 1, 2, 3, 4] [(0, .ref 39), (1, .int (nI a)), (2, .int (nI b)), (3, .int (hdv (aln (gp W a b) s) (aln (gp W b a) s))), (4, .int (nI s + Int32.ofInt 1))] [] h [true, true] 60 hq rfl ⟨rfl, rfl, trivial⟩ (fun _ => ?_)
            rw [nI_1']
            exact r
theorem hel_q {f a b : Nat} (A : RA W m h) (m12 : m ≤ 12) (ha : a < m) (hb : b < m) (hq : a_rq a_tb h) : xq f xi_X10_held xmi_X10_held 0 [(0, .ref 39), (1, .int (nI a)), (2, .int (nI b))] [] h (fun v h' => h = h' ∧ v = some (.int (hdv (aln (gp W a b) (2 ^ m)) (aln (gp W b a) (2 ^ m))))) := by
  refine xq_n 5 [0, 1, 2, 3, 4] [(0, .ref 39), (1, .int (nI a)), (2, .int (nI b)), (3, .int (Int32.ofInt 3)), (4, .int (Int32.ofInt 0))] [] h [] 60 hq rfl trivial (fun _ => ?_)
  exact hel_l A m12 ha hb hq (2 ^ m) f 0 (by omega)
end
/-- one of the members -/
theorem mb_n {x : Int32} {mem : Nat} (m12 : mem ≤ 12) (h : (!xe_c .lt x 0 && !xe_c .ge x (nI mem)) = true) : ∃ a, x = nI a ∧ a < mem ∧ x.toInt.toNat = a := by
  rw [Bool.and_eq_true, Bool.not_eq_true', Bool.not_eq_true'] at h
  have b1 : (0 : Int) ≤ x.toInt := a_ce (a_neg_ok h.1)
  have b2 : x.toInt < (nI mem).toInt := a_ce (a_neg_ok h.2)
  rw [nI_toInt (by omega)] at b2
  obtain ⟨k, e, k1, k2⟩ := a_nk (x := x) (m := 12) b1 (by omega)
  have t : x.toInt.toNat = k := by rw [e, nI_toInt (by omega)]; omega
  exact ⟨k, e, by omega, t⟩
def isM (x : Int32) (mem : Nat) : Bool := !xe_c .lt x 0 && !xe_c .ge x (nI mem)
def tuA (W : Nat → Bool) (mem : Nat) (x : Int32) : Int32 := cond (isM x mem) (nI (cnt (tw W x.toInt.toNat) (2 ^ mem))) (Int32.ofInt (-1))
def alA (W : Nat → Bool) (mem : Nat) (x : Int32) : Int32 := cond (isM x mem) (alf (fun b => cnt (tg W x.toInt.toNat b) (2 ^ mem)) x.toInt.toNat mem).1 (Int32.ofInt (-1))
def cmv (o u : Bool) : Int32 := cond o (cond u (Int32.ofInt 0) (Int32.ofInt 1)) (cond u (Int32.ofInt (-1)) (Int32.ofInt 2))
def srA (W : Nat → Bool) (mem : Nat) (x y : Int32) : Int32 := cond (isM x mem) (cond (isM y mem) (cmv (aln (gp W x.toInt.toNat y.toInt.toNat) (2 ^ mem)) (aln (gp W y.toInt.toNat x.toInt.toNat) (2 ^ mem))) (-2)) (-2)
theorem gp_s {W : Nat → Bool} {a s : Nat} : gp W a a s = true := by unfold gp; cases W (s ||| 2 ^ a) <;> cases s.testBit a <;> rfl
theorem aln_a {P : Nat → Bool} : ∀ n, (∀ k, P k = true) → aln P n = true := by
  intro n
  induction n with
  | zero => intro _; rfl
  | succ n ih => intro h; rw [aln_1 (h n)]; exact ih h
section
variable {mem sc : Nat} {FR RW : Nat → Int32} {d : Int32} {h : xh_H}
/-- lay, behind the answer's first write -/
theorem ly_q {f : Nat} (m12 : mem ≤ 12) (e4 : xg 0 h.2.1 39 4 = nI mem) (e33 : xg 0 h.2.1 39 33 = nI sc) (sc8 : sc ≤ 8) (e3 : xg 0 h.2.1 39 3 = d) (hF : ∀ k, k < sc → xg 0 h.2.1 51 k = FR k) (hT : ∀ k, k < sc → (xg 0 h.2.1 52 k).toInt ≤ 999) (hR : ∀ k s, k < sc → s < 2 ^ mem → ∃ b : Bool, RW (4096 * k + s) = bl b ∧ xg 0 h.2.1 44 (4096 * k + s) = bl b) (hq : a_rq a_tb (xh_ui h 39 0 (Int32.ofInt 0))) : xq f xi_X10_lay xmi_X10_lay 0 [(0, .ref 39)] [] (xh_ui h 39 0 (Int32.ofInt 0)) (fun v h' => v = none ∧ fx S53 fN (xh_ui h 39 0 (Int32.ofInt 0)) h' ∧ RA (cvB FR RW mem sc d) mem h') := by
  refine xq_mono (lay_q (FR := FR) (RW := RW) (d := d) m12 ((gx_k (by decide)).trans e4) ((gx_k (by decide)).trans e33) sc8 ((gx_k (by decide)).trans e3) (fun k hk' => (gx_o (by decide)).trans (hF k hk')) (fun k hk' => by rw [gx_o (by decide)]; exact hT k hk') (fun k s h1 h2 => by obtain ⟨b, b1, b2⟩ := hR k s h1 h2; exact ⟨b, b1, (gx_o (by decide)).trans b2⟩) hq) (fun v h' e => ?_)
  obtain ⟨e1, g1, w35, w53⟩ := e
  exact ⟨e1, g1, (fx_i g1 rfl).trans ((gx_k (by decide)).trans e4), w35, w53⟩
set_option maxRecDepth 100000 in
set_option maxHeartbeats 4000000 in
theorem tu10_q {f : Nat} {x : Int32} (m12 : mem ≤ 12) (e4 : xg 0 h.2.1 39 4 = nI mem) (e33 : xg 0 h.2.1 39 33 = nI sc) (sc8 : sc ≤ 8) (e3 : xg 0 h.2.1 39 3 = d) (hF : ∀ k, k < sc → xg 0 h.2.1 51 k = FR k) (hT : ∀ k, k < sc → (xg 0 h.2.1 52 k).toInt ≤ 999) (hR : ∀ k s, k < sc → s < 2 ^ mem → ∃ b : Bool, RW (4096 * k + s) = bl b ∧ xg 0 h.2.1 44 (4096 * k + s) = bl b) (hq : a_rq a_tb h) : xq f xi_X10_turns xmi_X10_turns 0 [(0, .ref 39), (1, .int x)] [] h (fun v h' => v = some (.int (tuA (cvB FR RW mem sc d) mem x))) := by
  refine xq_n 7 [0, 1] [(0, .ref 39), (1, .int x)] [.int x, .ref 39] (xh_ui h 39 0 (Int32.ofInt 0)) [] 60 hq rfl trivial (fun _ => ?_)
  have hq : a_rq a_tb (xh_ui h 39 0 (Int32.ofInt 0)) := a_rq_ui hq
  refine xq_run hq rfl rfl (mem10_q (z := nI mem) ((gx_k (by decide)).trans e4) hq) ?_
  rintro v h1 ⟨rfl, rfl⟩
  unfold tuA isM
  cases c1 : (!xe_c .lt x 0 && !xe_c .ge x (nI mem)) with
  | false =>
    refine xq_n 14 [] [] [.int (Int32.ofInt (-1))] (xh_ui h 39 0 (Int32.ofInt 0)) [false] 60 hq rfl ⟨rfl, trivial⟩ (fun _ => ?_)
    exact xq_ret rfl rfl rfl rfl
  | true =>
    obtain ⟨a, rfl, al, ea⟩ := mb_n m12 c1
    rw [ea]
    refine xq_n 16 [0, 1] [(0, .ref 39), (1, .int (nI a))] [.ref 39] (xh_ui h 39 0 (Int32.ofInt 0)) [true] 60 hq rfl ⟨rfl, trivial⟩ (fun _ => ?_)
    refine xq_run hq rfl rfl (ly_q m12 e4 e33 sc8 e3 hF hT hR hq) ?_
    rintro v h1 ⟨rfl, g1, A⟩
    have hq := fx_q g1 hq
    refine xq_n 21 [] [] [.int (nI a), .ref 39] h1 [] 60 hq rfl trivial (fun _ => ?_)
    refine xq_run hq rfl rfl (tno_q A m12 al hq) ?_
    rintro v h2 ⟨rfl, rfl⟩
    exact xq_ret rfl rfl rfl rfl
set_option maxRecDepth 100000 in
set_option maxHeartbeats 4000000 in
theorem al10_q {f : Nat} {x : Int32} (m12 : mem ≤ 12) (e4 : xg 0 h.2.1 39 4 = nI mem) (e33 : xg 0 h.2.1 39 33 = nI sc) (sc8 : sc ≤ 8) (e3 : xg 0 h.2.1 39 3 = d) (hF : ∀ k, k < sc → xg 0 h.2.1 51 k = FR k) (hT : ∀ k, k < sc → (xg 0 h.2.1 52 k).toInt ≤ 999) (hR : ∀ k s, k < sc → s < 2 ^ mem → ∃ b : Bool, RW (4096 * k + s) = bl b ∧ xg 0 h.2.1 44 (4096 * k + s) = bl b) (hq : a_rq a_tb h) : xq f xi_X10_ally xmi_X10_ally 0 [(0, .ref 39), (1, .int x)] [] h (fun v h' => v = some (.int (alA (cvB FR RW mem sc d) mem x))) := by
  refine xq_n 7 [0, 1] [(0, .ref 39), (1, .int x)] [.int x, .ref 39] (xh_ui h 39 0 (Int32.ofInt 0)) [] 60 hq rfl trivial (fun _ => ?_)
  have hq : a_rq a_tb (xh_ui h 39 0 (Int32.ofInt 0)) := a_rq_ui hq
  refine xq_run hq rfl rfl (mem10_q (z := nI mem) ((gx_k (by decide)).trans e4) hq) ?_
  rintro v h1 ⟨rfl, rfl⟩
  unfold alA isM
  cases c1 : (!xe_c .lt x 0 && !xe_c .ge x (nI mem)) with
  | false =>
    refine xq_n 14 [] [] [.int (Int32.ofInt (-1))] (xh_ui h 39 0 (Int32.ofInt 0)) [false] 60 hq rfl ⟨rfl, trivial⟩ (fun _ => ?_)
    exact xq_ret rfl rfl rfl rfl
  | true =>
    obtain ⟨a, rfl, al, ea⟩ := mb_n m12 c1
    rw [ea]
    refine xq_n 16 [0, 1] [(0, .ref 39), (1, .int (nI a))] [.ref 39] (xh_ui h 39 0 (Int32.ofInt 0)) [true] 60 hq rfl ⟨rfl, trivial⟩ (fun _ => ?_)
    refine xq_run hq rfl rfl (ly_q m12 e4 e33 sc8 e3 hF hT hR hq) ?_
    rintro v h1 ⟨rfl, g1, A⟩
    have hq := fx_q g1 hq
    refine xq_n 26 [0, 1, 2, 3, 4] [(0, .ref 39), (1, .int (nI a)), (2, .int (Int32.ofInt (-1))), (3, .int (Int32.ofInt (-1))), (4, .int (Int32.ofInt 0))] [] h1 [] 60 hq rfl trivial (fun _ => ?_)
    exact al_out rfl A m12 al hq mem f 0 (by omega)
set_option maxRecDepth 100000 in
set_option maxHeartbeats 4000000 in
theorem sr10_q {f : Nat} {x y : Int32} (m12 : mem ≤ 12) (e4 : xg 0 h.2.1 39 4 = nI mem) (e33 : xg 0 h.2.1 39 33 = nI sc) (sc8 : sc ≤ 8) (e3 : xg 0 h.2.1 39 3 = d) (hF : ∀ k, k < sc → xg 0 h.2.1 51 k = FR k) (hT : ∀ k, k < sc → (xg 0 h.2.1 52 k).toInt ≤ 999) (hR : ∀ k s, k < sc → s < 2 ^ mem → ∃ b : Bool, RW (4096 * k + s) = bl b ∧ xg 0 h.2.1 44 (4096 * k + s) = bl b) (hq : a_rq a_tb h) : xq f xi_X10_stronger xmi_X10_stronger 0 [(0, .ref 39), (1, .int x), (2, .int y)] [] h (fun v h' => v = some (.int (srA (cvB FR RW mem sc d) mem x y))) := by
  refine xq_n 7 [0, 1, 2] [(0, .ref 39), (1, .int x), (2, .int y)] [.int x, .ref 39] (xh_ui h 39 0 (Int32.ofInt 0)) [] 60 hq rfl trivial (fun _ => ?_)
  have hq : a_rq a_tb (xh_ui h 39 0 (Int32.ofInt 0)) := a_rq_ui hq
  refine xq_run hq rfl rfl (mem10_q (z := nI mem) ((gx_k (by decide)).trans e4) hq) ?_
  rintro v h1 ⟨rfl, rfl⟩
  unfold srA
  cases c1 : isM x mem with
  | false =>
    unfold isM at c1
    rw [c1]
    refine xq_n 23 [] [] [.int (-2)] (xh_ui h 39 0 (Int32.ofInt 0)) [true] 60 hq rfl ⟨rfl, trivial⟩ (fun _ => ?_)
    exact xq_ret rfl rfl rfl rfl
  | true =>
    unfold isM at c1
    obtain ⟨a, rfl, al, ea⟩ := mb_n m12 c1
    rw [ea, c1]
    refine xq_n 15 [0, 1, 2] [(0, .ref 39), (1, .int (nI a)), (2, .int y)] [.int y, .ref 39] (xh_ui h 39 0 (Int32.ofInt 0)) [false] 60 hq rfl ⟨rfl, trivial⟩ (fun _ => ?_)
    refine xq_run hq rfl rfl (mem10_q (z := nI mem) ((gx_k (by decide)).trans e4) hq) ?_
    rintro v h1 ⟨rfl, rfl⟩
    cases c2 : isM y mem with
    | false =>
      unfold isM at c2
      rw [c2]
      refine xq_n 23 [] [] [.int (-2)] (xh_ui h 39 0 (Int32.ofInt 0)) [false] 60 hq rfl ⟨rfl, trivial⟩ (fun _ => ?_)
      exact xq_ret rfl rfl rfl rfl
    | true =>
      unfold isM at c2
      obtain ⟨b, rfl, bm, eb⟩ := mb_n m12 c2
      rw [eb, c2]
      by_cases z : a = b
      · refine xq_n 30 [] [] [.int (Int32.ofInt 0)] (xh_ui h 39 0 (Int32.ofInt 0)) [true, false] 60 hq rfl ⟨rfl, nne_f (by omega) (by omega) z, trivial⟩ (fun _ => ?_)
        refine xq_ret rfl rfl rfl ?_
        rw [← z, aln_a (P := gp (cvB FR RW mem sc d) a a) (2 ^ mem) (fun _ => gp_s)]
        rfl
      · refine xq_n 32 [0, 1, 2] [(0, .ref 39), (1, .int (nI a)), (2, .int (nI b))] [.ref 39] (xh_ui h 39 0 (Int32.ofInt 0)) [true, true] 60 hq rfl ⟨rfl, nne_t (by omega) (by omega) z, trivial⟩ (fun _ => ?_)
        refine xq_run hq rfl rfl (ly_q m12 e4 e33 sc8 e3 hF hT hR hq) ?_
        rintro v h1 ⟨rfl, g1, A⟩
        have hq := fx_q g1 hq
        refine xq_n 38 [] [] [.int (nI b), .int (nI a), .ref 39] h1 [] 60 hq rfl trivial (fun _ => ?_)
        refine xq_run hq rfl rfl (hel_q A m12 al bm hq) ?_
        rintro v h2 ⟨rfl, rfl⟩
        cases aln (gp (cvB FR RW mem sc d) a b) (2 ^ mem) with
        | true =>
          cases aln (gp (cvB FR RW mem sc d) b a) (2 ^ mem) with
          | true =>
            refine xq_n 70 [] [] [.int (Int32.ofInt 0)] h1 [false] 60 hq rfl ⟨rfl, trivial⟩ (fun _ => ?_)
            exact xq_ret rfl rfl rfl rfl
          | false =>
            refine xq_n 70 [] [] [.int (Int32.ofInt 1)] h1 [true, false] 60 hq rfl ⟨rfl, rfl, trivial⟩ (fun _ => ?_)
            exact xq_ret rfl rfl rfl rfl
        | false =>
          cases aln (gp (cvB FR RW mem sc d) b a) (2 ^ mem) with
          | true =>
            refine xq_n 70 [] [] [.int (Int32.ofInt (-1))] h1 [true, true, false] 60 hq rfl ⟨rfl, rfl, rfl, trivial⟩ (fun _ => ?_)
            exact xq_ret rfl rfl rfl rfl
          | false =>
            refine xq_n 70 [] [] [.int (Int32.ofInt 2)] h1 [true, true, true] 60 hq rfl ⟨rfl, rfl, rfl, trivial⟩ (fun _ => ?_)
            exact xq_ret rfl rfl rfl rfl
end
end XPR
end
section
section XPL
/-- all others -/
def co (m s : Nat) : Nat := 2 ^ m - (s + 1)
theorem co_lt {m s : Nat} : co m s < 2 ^ m := by have := Nat.two_pow_pos m; unfold co; omega
theorem co_tb {m s i : Nat} (hs : s < 2 ^ m) : (co m s).testBit i = (decide (i < m) && !s.testBit i) := Nat.testBit_two_pow_sub_succ hs i
theorem coc_n {m s : Nat} (m12 : m ≤ 12) (hs : s < 2 ^ m) : nI (2 ^ m - 1) &&& (nI s ^^^ Int32.ofInt (-1)) = nI (co m s) := nI_andn (fun i _ => by
  rw [co_tb hs, Nat.testBit_two_pow_sub_one])
/-- without one -/
def rmb (s a : Nat) : Nat := s ^^^ (s &&& 2 ^ a)
theorem rmb_tb {s a i : Nat} : (rmb s a).testBit i = (s.testBit i && !decide (a = i)) := by
  unfold rmb
  rw [Nat.testBit_xor, Nat.testBit_and, Nat.testBit_two_pow]
  cases s.testBit i <;> cases decide (a = i) <;> rfl
theorem rmb_lt {s a m : Nat} (hs : s < 2 ^ m) : rmb s a < 2 ^ m := Nat.xor_lt_two_pow hs (Nat.lt_of_le_of_lt Nat.and_le_left hs)
theorem rmb_n {s a : Nat} (ha : a ≤ 11) : nI s &&& ((Int32.ofInt 1 <<< (nI a &&& 31)) ^^^ Int32.ofInt (-1)) = nI (rmb s a) := by
  rw [sh1 a (by omega)]
  exact nI_andn (fun i _ => by rw [rmb_tb, Nat.testBit_two_pow])
/-- carries, or hinders -/
def dz (W : Nat → Bool) (m : Nat) (hd : Bool) (s : Nat) : Bool := cond hd (!W (co m s)) (W s)
/-- .. and no less does -/
def mi (W : Nat → Bool) (m : Nat) (hd : Bool) (s : Nat) : Bool := dz W m hd s && aln (fun a => !(s.testBit a && dz W m hd (rmb s a))) m
/-- how many members -/
def sz (s : Nat) : Nat := cnt (fun i => s.testBit i) 12
theorem sz_le {s : Nat} : sz s ≤ 12 := cnt_le 12
theorem pc_sz {s : Nat} : ∀ j, pcr s j = cnt (fun i => s.testBit i) j := by
  intro j
  induction j with
  | zero => rfl
  | succ j ih =>
    show pcr s j + (s.testBit j).toNat = if s.testBit j = true then cnt (fun i => s.testBit i) j + 1 else cnt (fun i => s.testBit i) j
    rw [ih]
    cases s.testBit j <;> rfl
theorem bc_sz : ((List.range 4096).all fun k => decide (bc (nI k) = nI (sz k))) = true := List.all_eq_true.mpr (fun k hk => decide_eq_true (by
  have e := of_decide_eq_true (List.all_eq_true.mp bc_pc k hk)
  rw [e, pc_sz]
  rfl))
theorem bit_q {f s : Nat} {h : xh_H} (hs : s < 4096) (hq : a_rq a_tb h) : xq f xi_J6_bitCount_0f7a4 xmi_J6_bitCount_0f7a4 0 [(0, .int (nI s))] [] h (fun v h' => h = h' ∧ v = some (.int (nI (sz s)))) := by
  have e := of_decide_eq_true (List.all_eq_true.mp bc_sz s (List.mem_range.mpr hs))
  refine xq_of (d := 0) ⟨_, rfl⟩ ⟨some (.int (bc (nI s))), h, bc_run 0 (nI s) h, rfl, by rw [e]⟩
section
variable {W : Nat → Bool} {m q r : Nat} {h : xh_H}
set_option maxRecDepth 100000 in
set_option maxHeartbeats 4000000 in
/-- Powers.does -/
theorem does_q {f s : Nat} {hd : Bool} (A : LA W m q r h) (m12 : m ≤ 12) (hs : s < 2 ^ m) (hq : a_rq a_tb h) : xq f xi_X2_does xmi_X2_does 0 [(0, .ref 14), (1, .int (nI s)), (2, .int (bl hd))] [] h (fun v h' => h = h' ∧ v = some (.int (bl (dz W m hd s)))) := by
  cases hd with
  | false =>
    refine xq_n 35 [] [] [.int (nI s), va_rf (xg none h.2.2.2 14 6)] h [true] 60 hq rfl ⟨rfl, trivial⟩ (fun _ => ?_)
    rw [A.1]
    refine xq_cr (As := [.ref q, .int (nI (s))]) (mj := xmi_X7_holds) (q := []) rfl rfl (fun _ _ => rfl) (xa_cs_ok (d := 0) (pc := 0) (lv := []) (nL := 0) A.2.1 rfl).1 (fun f => hl_q A m12 (hs) hq) ?_
    rintro v h1 ⟨rfl, rfl⟩
    exact xq_ret rfl rfl rfl ⟨rfl, rfl⟩
  | true =>
    refine xq_n 16 [] [] [.int (xg 0 h.2.1 14 8 &&& (nI s ^^^ Int32.ofInt (-1))), va_rf (xg none h.2.2.2 14 6)] h [false] 60 hq rfl ⟨rfl, trivial⟩ (fun _ => ?_)
    rw [A.1, A.2.2.2.2.2.1, coc_n m12 hs]
    refine xq_cr (As := [.ref q, .int (nI (co m s))]) (mj := xmi_X7_holds) (q := []) rfl rfl (fun _ _ => rfl) (xa_cs_ok (d := 0) (pc := 0) (lv := []) (nL := 0) A.2.1 rfl).1 (fun f => hl_q A m12 (co_lt) hq) ?_
    rintro v h1 ⟨rfl, rfl⟩
    show xq f _ _ _ _ _ _ (fun v h' => h = h' ∧ v = some (.int (bl (!W (co m s)))))
    cases W (co m s) with
    | true =>
      refine xq_n 38 [] [] [.int (Int32.ofInt 0)] h [true] 60 hq rfl ⟨rfl, trivial⟩ (fun _ => ?_)
      exact xq_ret rfl rfl rfl ⟨rfl, rfl⟩
    | false =>
      refine xq_n 38 [] [] [.int (Int32.ofInt 1)] h [false] 60 hq rfl ⟨rfl, trivial⟩ (fun _ => ?_)
      exact xq_ret rfl rfl rfl ⟨rfl, rfl⟩
set_option maxRecDepth 100000 in
set_option maxHeartbeats 4000000 in
/-- Powers.isMinimal -/
theorem ism_l {s : Nat} {hd : Bool} (A : LA W m q r h) (m12 : m ≤ 12) (hs : s < 2 ^ m) (c0 : dz W m hd s = true) (hq : a_rq a_tb h) : ∀ (j f a : Nat), a + j = m → aln (fun a => !(s.testBit a && dz W m hd (rmb s a))) a = true → xq f xi_X2_isMinimal xmi_X2_isMinimal 13 [(0, .ref 14), (1, .int (nI s)), (2, .int (bl hd)), (3, .int (nI a))] [] h (fun v h' => h = h' ∧ v = some (.int (bl (mi W m hd s)))) := by
  have p12 : 2 ^ m ≤ 4096 := show 2 ^ m ≤ 2 ^ 12 from Nat.pow_le_pow_right (by decide) m12
  intro j
  induction j with
  | zero =>
    intro f a aj w
    have e : a = m := by omega
    subst e
    refine xq_n 53 [] [] [.int (Int32.ofInt 1)] h [true] 60 hq rfl ⟨(show xe_c .ge (nI a) (xg 0 h.2.1 14 7) = true by rw [A.2.2.2.2.1]; exact nge_t (by omega) (by omega) (Nat.le_refl _)), trivial⟩ (fun _ => ?_)
    exact xq_ret rfl rfl rfl ⟨rfl, by unfold mi; rw [c0, w]; rfl⟩
  | succ j ih =>
    intro f a aj w
    have g0 : xe_c .ge (nI a) (xg 0 h.2.1 14 7) = false := by rw [A.2.2.2.2.1]; exact nge_f (by omega) (by omega) (by omega)
    have g1 := be' (rb0 m12 hs (show a < m by omega))
    cases c1 : s.testBit a with
    | false =>
      rw [c1] at g1
      refine xq_n 13 [0, 1, 2, 3] [(0, .ref 14), (1, .int (nI s)), (2, .int (bl hd)), (3, .int (nI a + Int32.ofInt 1))] [] h [false, true] 60 hq rfl ⟨g0, g1, trivial⟩ (fun _ => ?_)
      rw [nI_1']
      exact ih f (a + 1) (by omega) (aln_s w (by rw [c1]; rfl))
    | true =>
      rw [c1] at g1
      refine xq_n 38 [0, 1, 2, 3] [(0, .ref 14), (1, .int (nI s)), (2, .int (bl hd)), (3, .int (nI a))] [.int (bl hd), .int (nI s &&& ((Int32.ofInt 1 <<< (nI a &&& 31)) ^^^ Int32.ofInt (-1))), .ref 14] h [false, false] 60 hq rfl ⟨g0, g1, trivial⟩ (fun _ => ?_)
      rw [rmb_n (by omega)]
      refine xq_run hq rfl rfl (does_q A m12 (rmb_lt hs) hq) ?_
      rintro v h1 ⟨rfl, rfl⟩
      cases c2 : dz W m hd (rmb s a) with
      | true =>
        refine xq_n 45 [] [] [.int (Int32.ofInt 0)] h [false] 60 hq rfl ⟨rfl, trivial⟩ (fun _ => ?_)
        exact xq_ret rfl rfl rfl ⟨rfl, by unfold mi; rw [aln_f (k := a) (by rw [c1, c2]; rfl) m (by omega), Bool.and_false]; rfl⟩
      | false =>
        refine xq_n 13 [0, 1, 2, 3] [(0, .ref 14), (1, .int (nI s)), (2, .int (bl hd)), (3, .int (nI a + Int32.ofInt 1))] [] h [true] 60 hq rfl ⟨rfl, trivial⟩ (fun _ => ?_)
        rw [nI_1']
        exact ih f (a + 1) (by omega) (aln_s w (by rw [c1, c2]; rfl))
set_option maxRecDepth 100000 in
set_option maxHeartbeats 4000000 in
theorem ism_q {f s : Nat} {hd : Bool} (A : LA W m q r h) (m12 : m ≤ 12) (hs : s < 2 ^ m) (hq : a_rq a_tb h) : xq f xi_X2_isMinimal xmi_X2_isMinimal 0 [(0, .ref 14), (1, .int (nI s)), (2, .int (bl hd))] [] h (fun v h' => h = h' ∧ v = some (.int (bl (mi W m hd s)))) := by
  refine xq_n 3 [0, 1, 2] [(0, .ref 14), (1, .int (nI s)), (2, .int (bl hd))] [.int (bl hd), .int (nI s), .ref 14] h [] 60 hq rfl trivial (fun _ => ?_)
  refine xq_run hq rfl rfl (does_q A m12 hs hq) ?_
  rintro v h1 ⟨rfl, rfl⟩
  cases c0 : dz W m hd s with
  | false =>
    refine xq_n 10 [] [] [.int (Int32.ofInt 0)] h [false] 60 hq rfl ⟨rfl, trivial⟩ (fun _ => ?_)
    exact xq_ret rfl rfl rfl ⟨rfl, by unfold mi; rw [c0]; rfl⟩
  | true =>
    refine xq_n 13 [0, 1, 2, 3] [(0, .ref 14), (1, .int (nI s)), (2, .int (bl hd)), (3, .int (Int32.ofInt 0))] [] h [true] 60 hq rfl ⟨rfl, trivial⟩ (fun _ => ?_)
    exact ism_l A m12 hs c0 hq m f 0 (by omega) rfl
end
/-- those of one size -/
def qk (P : Nat → Bool) (k t : Nat) : Bool := P t && decide (sz t = k)
/-- how many are smaller -/
def cum (P : Nat → Bool) (N : Nat) : Nat → Nat
  | 0 => 0
  | j + 1 => cum P N j + cnt (qk P j) N
/-- where a set goes -/
def rk (P : Nat → Bool) (N t : Nat) : Nat := cum P N (sz t) + cnt (qk P (sz t)) t
theorem cnt_m {P : Nat → Bool} : ∀ {a b : Nat}, a ≤ b → cnt P a ≤ cnt P b := by
  intro a b h
  induction b with
  | zero => rw [show a = 0 by omega]; exact Nat.le_refl _
  | succ b ih =>
    by_cases z : a = b + 1
    · rw [z]; exact Nat.le_refl _
    · have := ih (by omega)
      show _ ≤ if P b = true then cnt P b + 1 else cnt P b
      split <;> omega
theorem cnt_lt {P : Nat → Bool} {a b : Nat} (hp : P a = true) (h : a < b) : cnt P a < cnt P b := by
  have := cnt_m (P := P) (show a + 1 ≤ b by omega)
  rw [cnt_t hp] at this
  omega
theorem cum_m {P : Nat → Bool} {N : Nat} : ∀ {a b : Nat}, a ≤ b → cum P N a ≤ cum P N b := by
  intro a b h
  induction b with
  | zero => rw [show a = 0 by omega]; exact Nat.le_refl _
  | succ b ih =>
    by_cases z : a = b + 1
    · rw [z]; exact Nat.le_refl _
    · have := ih (by omega)
      show _ ≤ cum P N b + cnt (qk P b) N
      omega
theorem qk_s {P : Nat → Bool} {t : Nat} (h : P t = true) : qk P (sz t) t = true := by unfold qk; rw [h, decide_eq_true rfl]; rfl
theorem rk_lt {P : Nat → Bool} {N t : Nat} (h : P t = true) (ht : t < N) : rk P N t < cum P N (sz t + 1) := by
  have := cnt_lt (qk_s h) ht
  show _ < cum P N (sz t) + cnt (qk P (sz t)) N
  unfold rk
  omega
theorem rk_ij {P : Nat → Bool} {N t t' : Nat} (h : P t = true) (h' : P t' = true) (ht : t < N) (ht' : t' < N) (e : rk P N t = rk P N t') : t = t' := by
  have a := rk_lt h ht
  have b := rk_lt h' ht'
  rcases Nat.lt_trichotomy (sz t) (sz t') with z | z | z
  · have c := cum_m (P := P) (N := N) (show sz t + 1 ≤ sz t' by omega)
    unfold rk at *
    omega
  · unfold rk at e
    rw [z] at e
    have q := qk_s h
    have q' := qk_s h'
    rw [z] at q
    rcases Nat.lt_trichotomy t t' with y | y | y
    · have := cnt_lt q y; omega
    · exact y
    · have := cnt_lt q' y; omega
  · have c := cum_m (P := P) (N := N) (show sz t' + 1 ≤ sz t by omega)
    unfold rk at *
    omega
theorem xq_sd {f mid : Nat} {mi : xm_M} {pc pc1 : Nat} {lv : List (Nat × Value)} {st st1 : List Value} {h h1 : xh_H} {Q : Option Value → xh_H → Prop} {r : xr_R} (hr : xC mid pc = some r) (hi : xe_isr r.1 = false) (h2 : ∀ d lw, xe_2 none mi.2.2.2.1 r (d + 1) pc lw st h 0 0 = some (pc1, lw, st1, h1, 0, 0)) (h0 : ∀ lw, xe_2 none mi.2.2.2.1 r 0 pc lw st h 0 0 = none) (k : xq f mid mi pc1 lv st1 h1 Q) : xq f mid mi pc lv st h Q := by
  intro d lw w h' c s hs hx
  obtain ⟨g, eg, ⟨o', e2, e3⟩ | ⟨e2, d', -, -, -, -, -, -, -, e, -⟩⟩ := xq_s hr hi hx
  · cases d with
    | zero => rw [h0] at e2; cases e2
    | succ d =>
      rw [h2] at e2
      cases e2
      exact k (d + 1) lw w h' c s hs (xe_x_le (by omega) e3)
  · rw [e, h2] at e2
    cases e2
theorem cum_b {P : Nat → Bool} {N : Nat} : ∀ j, cum P N j ≤ N * j := by
  intro j
  induction j with
  | zero => exact Nat.le_refl _
  | succ j ih =>
    have := cnt_le (P := qk P j) N
    show cum P N j + cnt (qk P j) N ≤ N * (j + 1)
    rw [Nat.mul_succ]
    omega
/-- no more than the row holds -/
def mn (n : Nat) : Int32 := if (924 : Int32) < nI n then 924 else nI n
def SL15 (c _k : Nat) : Bool := Nat.beq c 18 || Nat.beq c 15
set_option maxRecDepth 100000 in
set_option maxHeartbeats 4000000 in
theorem lz15_1 {hd : Bool} {hb : xh_H} {Q : Option Value → xh_H → Prop} (K : ∀ (f : Nat) (h : xh_H), a_rq a_tb h → fx SL15 fN hb h → (∀ j, j < 14 → xg 0 h.2.1 18 j = nI 0) → xq f xi_X2_list xmi_X2_list 26 [(0, .ref 14), (1, .ref 15), (2, .int (bl hd)), (3, .int (nI 0))] [] h Q) : ∀ (n f i : Nat) (h : xh_H), i + n = 14 → a_rq a_tb h → fx SL15 fN hb h → (∀ j, j < i → xg 0 h.2.1 18 j = nI 0) → xq f xi_X2_list xmi_X2_list 2 [(0, .ref 14), (1, .ref 15), (2, .int (bl hd)), (3, .int (nI i))] [] h Q := by
  intro n
  induction n with
  | zero =>
    intro f i h hn hq ge w
    have e : i = 14 := by omega
    subst e
    refine xq_n 26 [0, 1, 2, 3] [(0, .ref 14), (1, .ref 15), (2, .int (bl hd)), (3, .int (Int32.ofInt 0))] [] h [true] 60 hq rfl ⟨rfl, trivial⟩ (fun _ => ?_)
    exact K f h hq ge w
  | succ n ih =>
    intro f i h hn hq ge w
    refine xq_n 2 [0, 1, 2, 3] [(0, .ref 14), (1, .ref 15), (2, .int (bl hd)), (3, .int (nI i + Int32.ofInt 1))] [] (xh_ui h 18 (nI i).toNatClampNeg (Int32.ofInt 0)) [false] 60 hq rfl ⟨nge_f (b := 14) (by omega) (by decide) (by omega), trivial⟩ (fun _ => ?_)
    rw [nI_1', show (nI i).toNatClampNeg = i from nI_clamp (by omega)]
    refine ih f (i + 1) _ (by omega) (a_rq_ui hq) (fx_ui ge rfl) (fun j hj => ?_)
    by_cases z : j = i
    · rw [z, gx_s]; rfl
    · exact (gx_k (by omega)).trans (w j (by omega))
set_option maxRecDepth 100000 in
set_option maxHeartbeats 4000000 in
theorem lz15_2 {W : Nat → Bool} {m q r : Nat} {hd : Bool} {hb : xh_H} {Q : Option Value → xh_H → Prop} (A : LA W m q r hb) (m12 : m ≤ 12) (K : ∀ (f : Nat) (h : xh_H), a_rq a_tb h → fx SL15 fN hb h → xg 0 h.2.1 18 0 = nI 0 → (∀ k, k ≤ 12 → xg 0 h.2.1 18 (k + 1) = nI (cnt (qk (mi W m hd) k) (2 ^ m))) → xq f xi_X2_list xmi_X2_list 66 [(0, .ref 14), (1, .ref 15), (2, .int (bl hd)), (3, .int (nI 1))] [] h Q) : ∀ (n f s : Nat) (h : xh_H), s + n = 2 ^ m → a_rq a_tb h → fx SL15 fN hb h → xg 0 h.2.1 18 0 = nI 0 → (∀ k, k ≤ 12 → xg 0 h.2.1 18 (k + 1) = nI (cnt (qk (mi W m hd) k) s)) → xq f xi_X2_list xmi_X2_list 26 [(0, .ref 14), (1, .ref 15), (2, .int (bl hd)), (3, .int (nI s))] [] h Q := by
  have p12 : 2 ^ m ≤ 4096 := show 2 ^ m ≤ 2 ^ 12 from Nat.pow_le_pow_right (by decide) m12
  intro n
  induction n with
  | zero =>
    intro f s h hn hq ge w0 w
    have e : s = 2 ^ m := by omega
    subst e
    refine xq_n 66 [0, 1, 2, 3] [(0, .ref 14), (1, .ref 15), (2, .int (bl hd)), (3, .int (Int32.ofInt 1))] [] h [true] 60 hq rfl ⟨gtt (LA_f A ge rfl rfl) m12, trivial⟩ (fun _ => ?_)
    exact K f h hq ge w0 w
  | succ n ih =>
    intro f s h hn hq ge w0 w
    have hs : s < 2 ^ m := by omega
    have A' := LA_f A ge rfl rfl
    refine xq_n 37 [0, 1, 2, 3] [(0, .ref 14), (1, .ref 15), (2, .int (bl hd)), (3, .int (nI s))] [.int (bl hd), .int (nI s), .ref 14] h [false] 60 hq rfl ⟨gtf A' m12 hs, trivial⟩ (fun _ => ?_)
    refine xq_run hq rfl rfl (ism_q A' m12 hs hq) ?_
    rintro v h1 ⟨rfl, rfl⟩
    cases c : mi W m hd s with
    | false =>
      refine xq_n 26 [0, 1, 2, 3] [(0, .ref 14), (1, .ref 15), (2, .int (bl hd)), (3, .int (nI s + Int32.ofInt 1))] [] h [true] 60 hq rfl ⟨rfl, trivial⟩ (fun _ => ?_)
      rw [nI_1']
      exact ih f (s + 1) h (by omega) hq ge w0 (fun k hk' => by rw [cnt_f (show qk (mi W m hd) k s = false by unfold qk; rw [c]; rfl)]; exact w k hk')
    | true =>
      refine xq_n 48 [0, 1, 2, 3] [(0, .ref 14), (1, .ref 15), (2, .int (bl hd)), (3, .int (nI s))] [.int (nI s), .ref 18] h [false] 60 hq rfl ⟨rfl, trivial⟩ (fun _ => ?_)
      refine xq_run hq rfl rfl (bit_q (by omega) hq) ?_
      rintro v h1 ⟨rfl, rfl⟩
      have sl := sz_le (s := s)
      refine xq_n 26 [0, 1, 2, 3] [(0, .ref 14), (1, .ref 15), (2, .int (bl hd)), (3, .int (nI s + Int32.ofInt 1))] [] (xh_ui h 18 (nI (sz s) + Int32.ofInt 1).toNatClampNeg (xg 0 h.2.1 18 (nI (sz s) + Int32.ofInt 1).toNatClampNeg + Int32.ofInt 1)) [] 60 hq rfl trivial (fun _ => ?_)
      rw [show nI s + Int32.ofInt 1 = nI (s + 1) from nI_1', show (nI (sz s) + Int32.ofInt 1).toNatClampNeg = sz s + 1 by rw [nI_1']; exact nI_clamp (by omega), w (sz s) sl, show nI (cnt (qk (mi W m hd) (sz s)) s) + Int32.ofInt 1 = nI (cnt (qk (mi W m hd) (sz s)) s + 1) from nI_1']
      refine ih f (s + 1) _ (by omega) (a_rq_ui hq) (fx_ui ge rfl) ((gx_k (by omega)).trans w0) (fun k hk' => ?_)
      by_cases z : k = sz s
      · rw [z, gx_s, cnt_t (qk_s c)]
      · rw [gx_k (by omega), cnt_f (show qk (mi W m hd) k s = false by unfold qk; rw [decide_eq_false (fun e => z e.symm), Bool.and_false])]
        exact w k hk'
set_option maxRecDepth 100000 in
set_option maxHeartbeats 4000000 in
theorem lz15_3 {P : Nat → Bool} {N : Nat} {hd : Bool} {hb : xh_H} {Q : Option Value → xh_H → Prop} (K : ∀ (f : Nat) (h : xh_H), a_rq a_tb h → fx SL15 fN hb h → (∀ k, k < 14 → xg 0 h.2.1 18 k = nI (cum P N k)) → xq f xi_X2_list xmi_X2_list 103 [(0, .ref 14), (1, .ref 15), (2, .int (bl hd)), (3, .int (nI 0)), (4, .int (nI 0))] [] h Q) : ∀ (n f i : Nat) (h : xh_H), i + n = 13 → a_rq a_tb h → fx SL15 fN hb h → (∀ k, k < i + 1 → xg 0 h.2.1 18 k = nI (cum P N k)) → (∀ k, i ≤ k → k ≤ 12 → xg 0 h.2.1 18 (k + 1) = nI (cnt (qk P k) N)) → xq f xi_X2_list xmi_X2_list 66 [(0, .ref 14), (1, .ref 15), (2, .int (bl hd)), (3, .int (nI (i + 1)))] [] h Q := by
  intro n
  induction n with
  | zero =>
    intro f i h hn hq ge w0 w
    have e : i = 13 := by omega
    subst e
    refine xq_n 103 [0, 1, 2, 3, 4] [(0, .ref 14), (1, .ref 15), (2, .int (bl hd)), (3, .int (Int32.ofInt 0)), (4, .int (Int32.ofInt 0))] [] h [true] 60 hq rfl ⟨rfl, trivial⟩ (fun _ => ?_)
    exact K f h hq ge w0
  | succ n ih =>
    intro f i h hn hq ge w0 w
    refine xq_n 66 [0, 1, 2, 3] [(0, .ref 14), (1, .ref 15), (2, .int (bl hd)), (3, .int (nI (i + 1) + Int32.ofInt 1))] [] (xh_ui h 18 (nI (i + 1)).toNatClampNeg (xg 0 h.2.1 18 (nI (i + 1)).toNatClampNeg + xg 0 h.2.1 18 (nI (i + 1) - Int32.ofInt 1).toNatClampNeg)) [false] 60 hq rfl ⟨nge_f (b := 14) (by omega) (by decide) (by omega), trivial⟩ (fun _ => ?_)
    rw [nI_1', show (nI (i + 1)).toNatClampNeg = i + 1 from nI_clamp (by omega), show (nI (i + 1) - Int32.ofInt 1).toNatClampNeg = i by rw [nI_sub1]; exact nI_clamp (by omega), w i (Nat.le_refl _) (by omega), w0 i (by omega), nI_add]
    refine ih f (i + 1) _ (by omega) (a_rq_ui hq) (fx_ui ge rfl) (fun k hk' => ?_) (fun k h1 h2 => (gx_k (by omega)).trans (w k (by omega) h2))
    by_cases z : k = i + 1
    · rw [z, gx_s]
      show _ = nI (cum P N i + cnt (qk P i) N)
      rw [Nat.add_comm]
    · exact (gx_k (by omega)).trans (w0 k (by omega))
set_option maxRecDepth 100000 in
set_option maxHeartbeats 4000000 in
theorem lz15_4 {W : Nat → Bool} {m q r : Nat} {hd : Bool} {hb : xh_H} {Q : Option Value → xh_H → Prop} (A : LA W m q r hb) (m12 : m ≤ 12) (K : ∀ (f : Nat) (h : xh_H), a_rq a_tb h → fx SL15 fN hb h → (∀ t, t < 2 ^ m → mi W m hd t = true → rk (mi W m hd) (2 ^ m) t < 924 → xg 0 h.2.1 15 (rk (mi W m hd) (2 ^ m) t) = nI t) → xq f xi_X2_list xmi_X2_list 164 [] [.int 924, .int (nI (cnt (mi W m hd) (2 ^ m)))] h Q) : ∀ (n f s : Nat) (h : xh_H), s + n = 2 ^ m → a_rq a_tb h → fx SL15 fN hb h → (∀ k, k ≤ 12 → xg 0 h.2.1 18 k = nI (cum (mi W m hd) (2 ^ m) k + cnt (qk (mi W m hd) k) s)) → (∀ t, t < s → mi W m hd t = true → rk (mi W m hd) (2 ^ m) t < 924 → xg 0 h.2.1 15 (rk (mi W m hd) (2 ^ m) t) = nI t) → xq f xi_X2_list xmi_X2_list 103 [(0, .ref 14), (1, .ref 15), (2, .int (bl hd)), (3, .int (nI (cnt (mi W m hd) s))), (4, .int (nI s))] [] h Q := by
  have p12 : 2 ^ m ≤ 4096 := show 2 ^ m ≤ 2 ^ 12 from Nat.pow_le_pow_right (by decide) m12
  intro n
  induction n with
  | zero =>
    intro f s h hn hq ge w0 w
    have e : s = 2 ^ m := by omega
    subst e
    refine xq_n 164 [] [] [.int 924, .int (nI (cnt (mi W m hd) (2 ^ m)))] h [true] 60 hq rfl ⟨gtt (LA_f A ge rfl rfl) m12, trivial⟩ (fun _ => ?_)
    exact K f h hq ge w
  | succ n ih =>
    intro f s h hn hq ge w0 w
    have hs : s < 2 ^ m := by omega
    have A' := LA_f A ge rfl rfl
    refine xq_n 116 [0, 1, 2, 3, 4] [(0, .ref 14), (1, .ref 15), (2, .int (bl hd)), (3, .int (nI (cnt (mi W m hd) s))), (4, .int (nI s))] [.int (bl hd), .int (nI s), .ref 14] h [false] 60 hq rfl ⟨gtf A' m12 hs, trivial⟩ (fun _ => ?_)
    refine xq_run hq rfl rfl (ism_q A' m12 hs hq) ?_
    rintro v h1 ⟨rfl, rfl⟩
    have r := ih f (s + 1)
    cases c : mi W m hd s with
    | false =>
      rw [cnt_f c] at r
      refine xq_n 103 [0, 1, 2, 3, 4] [(0, .ref 14), (1, .ref 15), (2, .int (bl hd)), (3, .int (nI (cnt (mi W m hd) s))), (4, .int (nI s + Int32.ofInt 1))] [] h [true] 60 hq rfl ⟨rfl, trivial⟩ (fun _ => ?_)
      rw [nI_1']
      refine r h (by omega) hq ge (fun k hk' => by rw [cnt_f (show qk (mi W m hd) k s = false by unfold qk; rw [c]; rfl)]; exact w0 k hk') (fun t ht hp hr => w t ?_ hp hr)
      by_cases z : t = s
      · rw [z, c] at hp; cases hp
      · omega
    | true =>
      rw [cnt_t c] at r
      refine xq_n 128 [0, 1, 2, 3, 4] [(0, .ref 14), (1, .ref 15), (2, .int (bl hd)), (3, .int (nI (cnt (mi W m hd) s))), (4, .int (nI s))] [.int (nI s), .ref 18] h [false] 60 hq rfl ⟨rfl, trivial⟩ (fun _ => ?_)
      refine xq_run hq rfl rfl (bit_q (by omega) hq) ?_
      rintro v h1 ⟨rfl, rfl⟩
      have sl := sz_le (s := s)
      have e18 : xg 0 h.2.1 18 (nI (sz s)).toNatClampNeg = nI (rk (mi W m hd) (2 ^ m) s) := by rw [nI_clamp (by omega)]; exact w0 (sz s) sl
      have rl : rk (mi W m hd) (2 ^ m) s < 2 ^ 31 := by
        have b := cum_b (P := mi W m hd) (N := 2 ^ m) (sz s)
        have b2 := cnt_le (P := qk (mi W m hd) (sz s)) s
        have b3 : 2 ^ m * sz s ≤ 4096 * 12 := Nat.mul_le_mul p12 sl
        unfold rk
        omega
      have w1 : ∀ k, k ≤ 12 → xg 0 (xh_ui h 18 (sz s) (nI (rk (mi W m hd) (2 ^ m) s + 1))).2.1 18 k = nI (cum (mi W m hd) (2 ^ m) k + cnt (qk (mi W m hd) k) (s + 1)) := fun k hk' => by
        by_cases z : k = sz s
        · rw [z, gx_s, cnt_t (qk_s c)]; rfl
        · rw [gx_k (by omega), cnt_f (show qk (mi W m hd) k s = false by unfold qk; rw [decide_eq_false (fun e => z e.symm), Bool.and_false])]
          exact w0 k hk'
      cases cg : xe_c .ge (nI (rk (mi W m hd) (2 ^ m) s)) 924 with
      | true =>
        have z2 : 924 ≤ rk (mi W m hd) (2 ^ m) s := nq_get (b := 924) rl (by decide) cg
        refine xq_n 103 [0, 1, 2, 3, 4] [(0, .ref 14), (1, .ref 15), (2, .int (bl hd)), (3, .int (nI (cnt (mi W m hd) s) + Int32.ofInt 1)), (4, .int (nI s + Int32.ofInt 1))] [] (xh_ui h 18 (nI (sz s)).toNatClampNeg (xg 0 h.2.1 18 (nI (sz s)).toNatClampNeg + Int32.ofInt 1)) [true] 80 hq rfl ⟨(show xe_c .ge (xg 0 h.2.1 18 (nI (sz s)).toNatClampNeg) 924 = true by rw [e18]; exact cg), trivial⟩ (fun _ => ?_)
        rw [e18, nI_1', nI_1', nI_1', show (nI (sz s)).toNatClampNeg = sz s from nI_clamp (by omega)]
        refine r _ (by omega) (a_rq_ui hq) (fx_ui ge rfl) w1 (fun t ht hp hr => (gx_o (by decide)).trans (w t ?_ hp hr))
        by_cases z : t = s
        · rw [z] at hr; omega
        · omega
      | false =>
        have z2 : rk (mi W m hd) (2 ^ m) s < 924 := nq_gef (b := 924) rl (by decide) cg
        refine xq_n 103 [0, 1, 2, 3, 4] [(0, .ref 14), (1, .ref 15), (2, .int (bl hd)), (3, .int (nI (cnt (mi W m hd) s) + Int32.ofInt 1)), (4, .int (nI s + Int32.ofInt 1))] [] (xh_ui (xh_ui h 18 (nI (sz s)).toNatClampNeg (xg 0 h.2.1 18 (nI (sz s)).toNatClampNeg + Int32.ofInt 1)) 15 (xg 0 h.2.1 18 (nI (sz s)).toNatClampNeg).toNatClampNeg (nI s)) [false] 80 hq rfl ⟨(show xe_c .ge (xg 0 h.2.1 18 (nI (sz s)).toNatClampNeg) 924 = false by rw [e18]; exact cg), trivial⟩ (fun _ => ?_)
        rw [e18, nI_1', nI_1', nI_1', show (nI (sz s)).toNatClampNeg = sz s from nI_clamp (by omega), show (nI (rk (mi W m hd) (2 ^ m) s)).toNatClampNeg = rk (mi W m hd) (2 ^ m) s from nI_clamp (by omega)]
        refine r _ (by omega) (a_rq_ui (a_rq_ui hq)) (fx_ui (fx_ui ge rfl) rfl) (fun k hk' => (gx_o (by decide)).trans (w1 k hk')) (fun t ht hp hr => ?_)
        by_cases z : t = s
        · rw [z, gx_s]
        · have ne : rk (mi W m hd) (2 ^ m) t ≠ rk (mi W m hd) (2 ^ m) s := fun e => z (rk_ij hp c (by omega) hs e)
          exact (gx_k ne).trans ((gx_o (by decide)).trans (w t (by omega) hp hr))
set_option maxRecDepth 100000 in
set_option maxHeartbeats 4000000 in
/-- Powers.list -/
theorem lz15_q {f : Nat} {W : Nat → Bool} {m q r : Nat} {hd : Bool} {hb : xh_H} (A : LA W m q r hb) (m12 : m ≤ 12) (hq : a_rq a_tb hb) : xq f xi_X2_list xmi_X2_list 0 [(0, .ref 14), (1, .ref 15), (2, .int (bl hd))] [] hb (fun v h' => v = some (.int (mn (cnt (mi W m hd) (2 ^ m)))) ∧ fx SL15 fN hb h' ∧ ∀ t, t < 2 ^ m → mi W m hd t = true → rk (mi W m hd) (2 ^ m) t < 924 → xg 0 h'.2.1 15 (rk (mi W m hd) (2 ^ m) t) = nI t) := by
  refine xq_n 2 [0, 1, 2, 3] [(0, .ref 14), (1, .ref 15), (2, .int (bl hd)), (3, .int (Int32.ofInt 0))] [] hb [] 60 hq rfl trivial (fun _ => ?_)
  refine lz15_1 (hb := hb) (fun f h hq ge w => ?_) 14 f 0 hb (by omega) hq fx_0 (fun j hj => absurd hj (Nat.not_lt_zero j))
  refine lz15_2 A m12 (fun f h hq ge w0 w => ?_) (2 ^ m) f 0 h (by omega) hq ge (w 0 (by decide)) (fun k hk' => w (k + 1) (by omega))
  refine lz15_3 (P := mi W m hd) (N := 2 ^ m) (fun f h hq ge w => ?_) 13 f 0 h (by omega) hq ge (fun k hk' => by rw [show k = 0 by omega]; exact w0) (fun k _ h2 => w k h2)
  refine lz15_4 A m12 (fun f h hq ge w => ?_) (2 ^ m) f 0 h (by omega) hq ge (fun k hk' => w k (by omega)) (fun t ht => absurd ht (Nat.not_lt_zero t))
  refine xq_sd (pc1 := 167) (st1 := [.int (mn (cnt (mi W m hd) (2 ^ m)))]) (h1 := h) rfl rfl (fun _ _ => rfl) (fun _ => rfl) ?_
  exact xq_ret rfl rfl rfl ⟨rfl, ge, w⟩
def SL16 (c _k : Nat) : Bool := Nat.beq c 18 || Nat.beq c 16
set_option maxRecDepth 100000 in
set_option maxHeartbeats 4000000 in
theorem lz16_1 {hd : Bool} {hb : xh_H} {Q : Option Value → xh_H → Prop} (K : ∀ (f : Nat) (h : xh_H), a_rq a_tb h → fx SL16 fN hb h → (∀ j, j < 14 → xg 0 h.2.1 18 j = nI 0) → xq f xi_X2_list xmi_X2_list 26 [(0, .ref 14), (1, .ref 16), (2, .int (bl hd)), (3, .int (nI 0))] [] h Q) : ∀ (n f i : Nat) (h : xh_H), i + n = 14 → a_rq a_tb h → fx SL16 fN hb h → (∀ j, j < i → xg 0 h.2.1 18 j = nI 0) → xq f xi_X2_list xmi_X2_list 2 [(0, .ref 14), (1, .ref 16), (2, .int (bl hd)), (3, .int (nI i))] [] h Q := by
  intro n
  induction n with
  | zero =>
    intro f i h hn hq ge w
    have e : i = 14 := by omega
    subst e
    refine xq_n 26 [0, 1, 2, 3] [(0, .ref 14), (1, .ref 16), (2, .int (bl hd)), (3, .int (Int32.ofInt 0))] [] h [true] 60 hq rfl ⟨rfl, trivial⟩ (fun _ => ?_)
    exact K f h hq ge w
  | succ n ih =>
    intro f i h hn hq ge w
    refine xq_n 2 [0, 1, 2, 3] [(0, .ref 14), (1, .ref 16), (2, .int (bl hd)), (3, .int (nI i + Int32.ofInt 1))] [] (xh_ui h 18 (nI i).toNatClampNeg (Int32.ofInt 0)) [false] 60 hq rfl ⟨nge_f (b := 14) (by omega) (by decide) (by omega), trivial⟩ (fun _ => ?_)
    rw [nI_1', show (nI i).toNatClampNeg = i from nI_clamp (by omega)]
    refine ih f (i + 1) _ (by omega) (a_rq_ui hq) (fx_ui ge rfl) (fun j hj => ?_)
    by_cases z : j = i
    · rw [z, gx_s]; rfl
    · exact (gx_k (by omega)).trans (w j (by omega))
set_option maxRecDepth 100000 in
set_option maxHeartbeats 4000000 in
theorem lz16_2 {W : Nat → Bool} {m q r : Nat} {hd : Bool} {hb : xh_H} {Q : Option Value → xh_H → Prop} (A : LA W m q r hb) (m12 : m ≤ 12) (K : ∀ (f : Nat) (h : xh_H), a_rq a_tb h → fx SL16 fN hb h → xg 0 h.2.1 18 0 = nI 0 → (∀ k, k ≤ 12 → xg 0 h.2.1 18 (k + 1) = nI (cnt (qk (mi W m hd) k) (2 ^ m))) → xq f xi_X2_list xmi_X2_list 66 [(0, .ref 14), (1, .ref 16), (2, .int (bl hd)), (3, .int (nI 1))] [] h Q) : ∀ (n f s : Nat) (h : xh_H), s + n = 2 ^ m → a_rq a_tb h → fx SL16 fN hb h → xg 0 h.2.1 18 0 = nI 0 → (∀ k, k ≤ 12 → xg 0 h.2.1 18 (k + 1) = nI (cnt (qk (mi W m hd) k) s)) → xq f xi_X2_list xmi_X2_list 26 [(0, .ref 14), (1, .ref 16), (2, .int (bl hd)), (3, .int (nI s))] [] h Q := by
  have p12 : 2 ^ m ≤ 4096 := show 2 ^ m ≤ 2 ^ 12 from Nat.pow_le_pow_right (by decide) m12
  intro n
  induction n with
  | zero =>
    intro f s h hn hq ge w0 w
    have e : s = 2 ^ m := by omega
    subst e
    refine xq_n 66 [0, 1, 2, 3] [(0, .ref 14), (1, .ref 16), (2, .int (bl hd)), (3, .int (Int32.ofInt 1))] [] h [true] 60 hq rfl ⟨gtt (LA_f A ge rfl rfl) m12, trivial⟩ (fun _ => ?_)
    exact K f h hq ge w0 w
  | succ n ih =>
    intro f s h hn hq ge w0 w
    have hs : s < 2 ^ m := by omega
    have A' := LA_f A ge rfl rfl
    refine xq_n 37 [0, 1, 2, 3] [(0, .ref 14), (1, .ref 16), (2, .int (bl hd)), (3, .int (nI s))] [.int (bl hd), .int (nI s), .ref 14] h [false] 60 hq rfl ⟨gtf A' m12 hs, trivial⟩ (fun _ => ?_)
    refine xq_run hq rfl rfl (ism_q A' m12 hs hq) ?_
    rintro v h1 ⟨rfl, rfl⟩
    cases c : mi W m hd s with
    | false =>
      refine xq_n 26 [0, 1, 2, 3] [(0, .ref 14), (1, .ref 16), (2, .int (bl hd)), (3, .int (nI s + Int32.ofInt 1))] [] h [true] 60 hq rfl ⟨rfl, trivial⟩ (fun _ => ?_)
      rw [nI_1']
      exact ih f (s + 1) h (by omega) hq ge w0 (fun k hk' => by rw [cnt_f (show qk (mi W m hd) k s = false by unfold qk; rw [c]; rfl)]; exact w k hk')
    | true =>
      refine xq_n 48 [0, 1, 2, 3] [(0, .ref 14), (1, .ref 16), (2, .int (bl hd)), (3, .int (nI s))] [.int (nI s), .ref 18] h [false] 60 hq rfl ⟨rfl, trivial⟩ (fun _ => ?_)
      refine xq_run hq rfl rfl (bit_q (by omega) hq) ?_
      rintro v h1 ⟨rfl, rfl⟩
      have sl := sz_le (s := s)
      refine xq_n 26 [0, 1, 2, 3] [(0, .ref 14), (1, .ref 16), (2, .int (bl hd)), (3, .int (nI s + Int32.ofInt 1))] [] (xh_ui h 18 (nI (sz s) + Int32.ofInt 1).toNatClampNeg (xg 0 h.2.1 18 (nI (sz s) + Int32.ofInt 1).toNatClampNeg + Int32.ofInt 1)) [] 60 hq rfl trivial (fun _ => ?_)
      rw [show nI s + Int32.ofInt 1 = nI (s + 1) from nI_1', show (nI (sz s) + Int32.ofInt 1).toNatClampNeg = sz s + 1 by rw [nI_1']; exact nI_clamp (by omega), w (sz s) sl, show nI (cnt (qk (mi W m hd) (sz s)) s) + Int32.ofInt 1 = nI (cnt (qk (mi W m hd) (sz s)) s + 1) from nI_1']
      refine ih f (s + 1) _ (by omega) (a_rq_ui hq) (fx_ui ge rfl) ((gx_k (by omega)).trans w0) (fun k hk' => ?_)
      by_cases z : k = sz s
      · rw [z, gx_s, cnt_t (qk_s c)]
      · rw [gx_k (by omega), cnt_f (show qk (mi W m hd) k s = false by unfold qk; rw [decide_eq_false (fun e => z e.symm), Bool.and_false])]
        exact w k hk'
set_option maxRecDepth 100000 in
set_option maxHeartbeats 4000000 in
theorem lz16_3 {P : Nat → Bool} {N : Nat} {hd : Bool} {hb : xh_H} {Q : Option Value → xh_H → Prop} (K : ∀ (f : Nat) (h : xh_H), a_rq a_tb h → fx SL16 fN hb h → (∀ k, k < 14 → xg 0 h.2.1 18 k = nI (cum P N k)) → xq f xi_X2_list xmi_X2_list 103 [(0, .ref 14), (1, .ref 16), (2, .int (bl hd)), (3, .int (nI 0)), (4, .int (nI 0))] [] h Q) : ∀ (n f i : Nat) (h : xh_H), i + n = 13 → a_rq a_tb h → fx SL16 fN hb h → (∀ k, k < i + 1 → xg 0 h.2.1 18 k = nI (cum P N k)) → (∀ k, i ≤ k → k ≤ 12 → xg 0 h.2.1 18 (k + 1) = nI (cnt (qk P k) N)) → xq f xi_X2_list xmi_X2_list 66 [(0, .ref 14), (1, .ref 16), (2, .int (bl hd)), (3, .int (nI (i + 1)))] [] h Q := by
  intro n
  induction n with
  | zero =>
    intro f i h hn hq ge w0 w
    have e : i = 13 := by omega
    subst e
    refine xq_n 103 [0, 1, 2, 3, 4] [(0, .ref 14), (1, .ref 16), (2, .int (bl hd)), (3, .int (Int32.ofInt 0)), (4, .int (Int32.ofInt 0))] [] h [true] 60 hq rfl ⟨rfl, trivial⟩ (fun _ => ?_)
    exact K f h hq ge w0
  | succ n ih =>
    intro f i h hn hq ge w0 w
    refine xq_n 66 [0, 1, 2, 3] [(0, .ref 14), (1, .ref 16), (2, .int (bl hd)), (3, .int (nI (i + 1) + Int32.ofInt 1))] [] (xh_ui h 18 (nI (i + 1)).toNatClampNeg (xg 0 h.2.1 18 (nI (i + 1)).toNatClampNeg + xg 0 h.2.1 18 (nI (i + 1) - Int32.ofInt 1).toNatClampNeg)) [false] 60 hq rfl ⟨nge_f (b := 14) (by omega) (by decide) (by omega), trivial⟩ (fun _ => ?_)
    rw [nI_1', show (nI (i + 1)).toNatClampNeg = i + 1 from nI_clamp (by omega), show (nI (i + 1) - Int32.ofInt 1).toNatClampNeg = i by rw [nI_sub1]; exact nI_clamp (by omega), w i (Nat.le_refl _) (by omega), w0 i (by omega), nI_add]
    refine ih f (i + 1) _ (by omega) (a_rq_ui hq) (fx_ui ge rfl) (fun k hk' => ?_) (fun k h1 h2 => (gx_k (by omega)).trans (w k (by omega) h2))
    by_cases z : k = i + 1
    · rw [z, gx_s]
      show _ = nI (cum P N i + cnt (qk P i) N)
      rw [Nat.add_comm]
    · exact (gx_k (by omega)).trans (w0 k (by omega))
set_option maxRecDepth 100000 in
set_option maxHeartbeats 4000000 in
theorem lz16_4 {W : Nat → Bool} {m q r : Nat} {hd : Bool} {hb : xh_H} {Q : Option Value → xh_H → Prop} (A : LA W m q r hb) (m12 : m ≤ 12) (K : ∀ (f : Nat) (h : xh_H), a_rq a_tb h → fx SL16 fN hb h → (∀ t, t < 2 ^ m → mi W m hd t = true → rk (mi W m hd) (2 ^ m) t < 924 → xg 0 h.2.1 16 (rk (mi W m hd) (2 ^ m) t) = nI t) → xq f xi_X2_list xmi_X2_list 164 [] [.int 924, .int (nI (cnt (mi W m hd) (2 ^ m)))] h Q) : ∀ (n f s : Nat) (h : xh_H), s + n = 2 ^ m → a_rq a_tb h → fx SL16 fN hb h → (∀ k, k ≤ 12 → xg 0 h.2.1 18 k = nI (cum (mi W m hd) (2 ^ m) k + cnt (qk (mi W m hd) k) s)) → (∀ t, t < s → mi W m hd t = true → rk (mi W m hd) (2 ^ m) t < 924 → xg 0 h.2.1 16 (rk (mi W m hd) (2 ^ m) t) = nI t) → xq f xi_X2_list xmi_X2_list 103 [(0, .ref 14), (1, .ref 16), (2, .int (bl hd)), (3, .int (nI (cnt (mi W m hd) s))), (4, .int (nI s))] [] h Q := by
  have p12 : 2 ^ m ≤ 4096 := show 2 ^ m ≤ 2 ^ 12 from Nat.pow_le_pow_right (by decide) m12
  intro n
  induction n with
  | zero =>
    intro f s h hn hq ge w0 w
    have e : s = 2 ^ m := by omega
    subst e
    refine xq_n 164 [] [] [.int 924, .int (nI (cnt (mi W m hd) (2 ^ m)))] h [true] 60 hq rfl ⟨gtt (LA_f A ge rfl rfl) m12, trivial⟩ (fun _ => ?_)
    exact K f h hq ge w
  | succ n ih =>
    intro f s h hn hq ge w0 w
    have hs : s < 2 ^ m := by omega
    have A' := LA_f A ge rfl rfl
    refine xq_n 116 [0, 1, 2, 3, 4] [(0, .ref 14), (1, .ref 16), (2, .int (bl hd)), (3, .int (nI (cnt (mi W m hd) s))), (4, .int (nI s))] [.int (bl hd), .int (nI s), .ref 14] h [false] 60 hq rfl ⟨gtf A' m12 hs, trivial⟩ (fun _ => ?_)
    refine xq_run hq rfl rfl (ism_q A' m12 hs hq) ?_
    rintro v h1 ⟨rfl, rfl⟩
    have r := ih f (s + 1)
    cases c : mi W m hd s with
    | false =>
      rw [cnt_f c] at r
      refine xq_n 103 [0, 1, 2, 3, 4] [(0, .ref 14), (1, .ref 16), (2, .int (bl hd)), (3, .int (nI (cnt (mi W m hd) s))), (4, .int (nI s + Int32.ofInt 1))] [] h [true] 60 hq rfl ⟨rfl, trivial⟩ (fun _ => ?_)
      rw [nI_1']
      refine r h (by omega) hq ge (fun k hk' => by rw [cnt_f (show qk (mi W m hd) k s = false by unfold qk; rw [c]; rfl)]; exact w0 k hk') (fun t ht hp hr => w t ?_ hp hr)
      by_cases z : t = s
      · rw [z, c] at hp; cases hp
      · omega
    | true =>
      rw [cnt_t c] at r
      refine xq_n 128 [0, 1, 2, 3, 4] [(0, .ref 14), (1, .ref 16), (2, .int (bl hd)), (3, .int (nI (cnt (mi W m hd) s))), (4, .int (nI s))] [.int (nI s), .ref 18] h [false] 60 hq rfl ⟨rfl, trivial⟩ (fun _ => ?_)
      refine xq_run hq rfl rfl (bit_q (by omega) hq) ?_
      rintro v h1 ⟨rfl, rfl⟩
      have sl := sz_le (s := s)
      have e18 : xg 0 h.2.1 18 (nI (sz s)).toNatClampNeg = nI (rk (mi W m hd) (2 ^ m) s) := by rw [nI_clamp (by omega)]; exact w0 (sz s) sl
      have rl : rk (mi W m hd) (2 ^ m) s < 2 ^ 31 := by
        have b := cum_b (P := mi W m hd) (N := 2 ^ m) (sz s)
        have b2 := cnt_le (P := qk (mi W m hd) (sz s)) s
        have b3 : 2 ^ m * sz s ≤ 4096 * 12 := Nat.mul_le_mul p12 sl
        unfold rk
        omega
      have w1 : ∀ k, k ≤ 12 → xg 0 (xh_ui h 18 (sz s) (nI (rk (mi W m hd) (2 ^ m) s + 1))).2.1 18 k = nI (cum (mi W m hd) (2 ^ m) k + cnt (qk (mi W m hd) k) (s + 1)) := fun k hk' => by
        by_cases z : k = sz s
        · rw [z, gx_s, cnt_t (qk_s c)]; rfl
        · rw [gx_k (by omega), cnt_f (show qk (mi W m hd) k s = false by unfold qk; rw [decide_eq_false (fun e => z e.symm), Bool.and_false])]
          exact w0 k hk'
      cases cg : xe_c .ge (nI (rk (mi W m hd) (2 ^ m) s)) 924 with
      | true =>
        have z2 : 924 ≤ rk (mi W m hd) (2 ^ m) s := nq_get (b := 924) rl (by decide) cg
        refine xq_n 103 [0, 1, 2, 3, 4] [(0, .ref 14), (1, .ref 16), (2, .int (bl hd)), (3, .int (nI (cnt (mi W m hd) s) + Int32.ofInt 1)), (4, .int (nI s + Int32.ofInt 1))] [] (xh_ui h 18 (nI (sz s)).toNatClampNeg (xg 0 h.2.1 18 (nI (sz s)).toNatClampNeg + Int32.ofInt 1)) [true] 80 hq rfl ⟨(show xe_c .ge (xg 0 h.2.1 18 (nI (sz s)).toNatClampNeg) 924 = true by rw [e18]; exact cg), trivial⟩ (fun _ => ?_)
        rw [e18, nI_1', nI_1', nI_1', show (nI (sz s)).toNatClampNeg = sz s from nI_clamp (by omega)]
        refine r _ (by omega) (a_rq_ui hq) (fx_ui ge rfl) w1 (fun t ht hp hr => (gx_o (by decide)).trans (w t ?_ hp hr))
        by_cases z : t = s
        · rw [z] at hr; omega
        · omega
      | false =>
        have z2 : rk (mi W m hd) (2 ^ m) s < 924 := nq_gef (b := 924) rl (by decide) cg
        refine xq_n 103 [0, 1, 2, 3, 4] [(0, .ref 14), (1, .ref 16), (2, .int (bl hd)), (3, .int (nI (cnt (mi W m hd) s) + Int32.ofInt 1)), (4, .int (nI s + Int32.ofInt 1))] [] (xh_ui (xh_ui h 18 (nI (sz s)).toNatClampNeg (xg 0 h.2.1 18 (nI (sz s)).toNatClampNeg + Int32.ofInt 1)) 16 (xg 0 h.2.1 18 (nI (sz s)).toNatClampNeg).toNatClampNeg (nI s)) [false] 80 hq rfl ⟨(show xe_c .ge (xg 0 h.2.1 18 (nI (sz s)).toNatClampNeg) 924 = false by rw [e18]; exact cg), trivial⟩ (fun _ => ?_)
        rw [e18, nI_1', nI_1', nI_1', show (nI (sz s)).toNatClampNeg = sz s from nI_clamp (by omega), show (nI (rk (mi W m hd) (2 ^ m) s)).toNatClampNeg = rk (mi W m hd) (2 ^ m) s from nI_clamp (by omega)]
        refine r _ (by omega) (a_rq_ui (a_rq_ui hq)) (fx_ui (fx_ui ge rfl) rfl) (fun k hk' => (gx_o (by decide)).trans (w1 k hk')) (fun t ht hp hr => ?_)
        by_cases z : t = s
        · rw [z, gx_s]
        · have ne : rk (mi W m hd) (2 ^ m) t ≠ rk (mi W m hd) (2 ^ m) s := fun e => z (rk_ij hp c (by omega) hs e)
          exact (gx_k ne).trans ((gx_o (by decide)).trans (w t (by omega) hp hr))
set_option maxRecDepth 100000 in
set_option maxHeartbeats 4000000 in
/-- Powers.list -/
theorem lz16_q {f : Nat} {W : Nat → Bool} {m q r : Nat} {hd : Bool} {hb : xh_H} (A : LA W m q r hb) (m12 : m ≤ 12) (hq : a_rq a_tb hb) : xq f xi_X2_list xmi_X2_list 0 [(0, .ref 14), (1, .ref 16), (2, .int (bl hd))] [] hb (fun v h' => v = some (.int (mn (cnt (mi W m hd) (2 ^ m)))) ∧ fx SL16 fN hb h' ∧ ∀ t, t < 2 ^ m → mi W m hd t = true → rk (mi W m hd) (2 ^ m) t < 924 → xg 0 h'.2.1 16 (rk (mi W m hd) (2 ^ m) t) = nI t) := by
  refine xq_n 2 [0, 1, 2, 3] [(0, .ref 14), (1, .ref 16), (2, .int (bl hd)), (3, .int (Int32.ofInt 0))] [] hb [] 60 hq rfl trivial (fun _ => ?_)
  refine lz16_1 (hb := hb) (fun f h hq ge w => ?_) 14 f 0 hb (by omega) hq fx_0 (fun j hj => absurd hj (Nat.not_lt_zero j))
  refine lz16_2 A m12 (fun f h hq ge w0 w => ?_) (2 ^ m) f 0 h (by omega) hq ge (w 0 (by decide)) (fun k hk' => w (k + 1) (by omega))
  refine lz16_3 (P := mi W m hd) (N := 2 ^ m) (fun f h hq ge w => ?_) 13 f 0 h (by omega) hq ge (fun k hk' => by rw [show k = 0 by omega]; exact w0) (fun k _ h2 => w k h2)
  refine lz16_4 A m12 (fun f h hq ge w => ?_) (2 ^ m) f 0 h (by omega) hq ge (fun k hk' => w k (by omega)) (fun t ht => absurd ht (Nat.not_lt_zero t))
  refine xq_sd (pc1 := 167) (st1 := [.int (mn (cnt (mi W m hd) (2 ^ m)))]) (h1 := h) rfl rfl (fun _ _ => rfl) (fun _ => rfl) ?_
  exact xq_ret rfl rfl rfl ⟨rfl, ge, w⟩
end XPL
end
section
section XPS
/-- in all of a row, or in none -/
def nf (R : Nat → Int32) (x : Int32) : Nat → Int32
  | 0 => x
  | k + 1 => nf R x k &&& R k
def idf (R : Nat → Int32) (x : Int32) : Nat → Int32
  | 0 => x
  | k + 1 => idf R x k &&& (R k ^^^ Int32.ofInt (-1))
def SM (c k : Nat) : Bool := Nat.beq c 14 && (Nat.beq k 11 || Nat.beq k 12)
section
variable {W : Nat → Bool} {m q r : Nat}
set_option maxRecDepth 100000 in
set_option maxHeartbeats 4000000 in
/-- Powers.markNeeded -/
theorem mkn_l {L : Nat} {x0 y0 : Int32} {hb : xh_H} (L9 : L ≤ 924) (e9 : xg 0 hb.2.1 14 9 = nI L) : ∀ (n f i : Nat) (h : xh_H), i + n = L → a_rq a_tb h → fx SM fN hb h → xg 0 h.2.1 14 11 = nf (fun k => xg 0 hb.2.1 15 k) x0 i → xg 0 h.2.1 14 12 = idf (fun k => xg 0 hb.2.1 15 k) y0 i → xq f xi_X2_markNeeded xmi_X2_markNeeded 29 [(0, .ref 14), (1, .int (nI i))] [] h (fun v h' => v = none ∧ fx SM fN hb h' ∧ xg 0 h'.2.1 14 11 = nf (fun k => xg 0 hb.2.1 15 k) x0 L ∧ xg 0 h'.2.1 14 12 = idf (fun k => xg 0 hb.2.1 15 k) y0 L) := by
  intro n
  induction n with
  | zero =>
    intro f i h hn hq ge w1 w2
    have e : i = L := by omega
    subst e
    refine xq_n 75 [] [] [] h [true] 60 hq rfl ⟨(show xe_c .ge (nI i) (xg 0 h.2.1 14 9) = true by rw [fx_i ge rfl, e9]; exact nge_t (by omega) (by omega) (Nat.le_refl _)), trivial⟩ (fun _ => ?_)
    exact xq_ret rfl rfl rfl ⟨rfl, ge, w1, w2⟩
  | succ n ih =>
    intro f i h hn hq ge w1 w2
    refine xq_n 29 [0, 1] [(0, .ref 14), (1, .int (nI i + Int32.ofInt 1))] [] (xh_ui (xh_ui h 14 11 (xg 0 h.2.1 14 11 &&& xg 0 h.2.1 15 (nI i).toNatClampNeg)) 14 12 (xg 0 (xh_ui h 14 11 (xg 0 h.2.1 14 11 &&& xg 0 h.2.1 15 (nI i).toNatClampNeg)).2.1 14 12 &&& (xg 0 (xh_ui h 14 11 (xg 0 h.2.1 14 11 &&& xg 0 h.2.1 15 (nI i).toNatClampNeg)).2.1 15 (nI i).toNatClampNeg ^^^ Int32.ofInt (-1)))) [false] 60 hq rfl ⟨(show xe_c .ge (nI i) (xg 0 h.2.1 14 9) = false by rw [fx_i ge rfl, e9]; exact nge_f (by omega) (by omega) (by omega)), trivial⟩ (fun _ => ?_)
    rw [nI_1', show (nI i).toNatClampNeg = i from nI_clamp (by omega), gx_k (k := 11) (k' := 12) (by decide), gx_o (c := 14) (c' := 15) (by decide), show xg 0 h.2.1 15 i = xg 0 hb.2.1 15 i from fx_i ge rfl, w1, w2]
    refine ih f (i + 1) _ (by omega) (a_rq_ui (a_rq_ui hq)) (fx_ui (fx_ui ge rfl) rfl) ?_ ?_
    · rw [gx_k (by decide), gx_s]; rfl
    · rw [gx_s]; rfl
set_option maxRecDepth 100000 in
set_option maxHeartbeats 4000000 in
theorem mkn_q {f L : Nat} {hb : xh_H} (L9 : L ≤ 924) (e9 : xg 0 hb.2.1 14 9 = nI L) (hq : a_rq a_tb hb) : xq f xi_X2_markNeeded xmi_X2_markNeeded 0 [(0, .ref 14)] [] hb (fun v h' => v = none ∧ fx SM fN hb h' ∧ xg 0 h'.2.1 14 11 = nf (fun k => xg 0 hb.2.1 15 k) (cond (xe_c .le (nI L) 0) 0 (xg 0 hb.2.1 14 8)) L ∧ xg 0 h'.2.1 14 12 = idf (fun k => xg 0 hb.2.1 15 k) (xg 0 hb.2.1 14 8) L) := by
  cases c : xe_c .le (nI L) 0 with
  | true =>
    refine xq_n 29 [0, 1] [(0, .ref 14), (1, .int (Int32.ofInt 0))] [] (xh_ui (xh_ui hb 14 11 (Int32.ofInt 0)) 14 12 (xg 0 (xh_ui hb 14 11 (Int32.ofInt 0)).2.1 14 8)) [true] 60 hq rfl ⟨(show xe_c .le (xg 0 hb.2.1 14 9) 0 = true by rw [e9]; exact c), trivial⟩ (fun _ => ?_)
    rw [gx_k (k := 11) (k' := 8) (by decide)]
    exact mkn_l L9 e9 L f 0 _ (by omega) (a_rq_ui (a_rq_ui hq)) (fx_ui (fx_ui fx_0 rfl) rfl) (by rw [gx_k (by decide), gx_s]; rfl) (by rw [gx_s]; rfl)
  | false =>
    refine xq_n 29 [0, 1] [(0, .ref 14), (1, .int (Int32.ofInt 0))] [] (xh_ui (xh_ui hb 14 11 (xg 0 hb.2.1 14 8)) 14 12 (xg 0 (xh_ui hb 14 11 (xg 0 hb.2.1 14 8)).2.1 14 8)) [false] 60 hq rfl ⟨(show xe_c .le (xg 0 hb.2.1 14 9) 0 = false by rw [e9]; exact c), trivial⟩ (fun _ => ?_)
    rw [gx_k (k := 11) (k' := 8) (by decide)]
    exact mkn_l L9 e9 L f 0 _ (by omega) (a_rq_ui (a_rq_ui hq)) (fx_ui (fx_ui fx_0 rfl) rfl) (by rw [gx_k (by decide), gx_s]; rfl) (by rw [gx_s]; rfl)
set_option maxRecDepth 100000 in
set_option maxHeartbeats 4000000 in
/-- Powers.isAtLeast -/
theorem ial_l {a b : Nat} {h : xh_H} (A : LA W m q r h) (m12 : m ≤ 12) (ha : a < m) (hb : b < m) (hq : a_rq a_tb h) : ∀ (n f s : Nat), s + n = 2 ^ m → aln (gp W a b) s = true → xq f xi_X2_isAtLeast xmi_X2_isAtLeast 11 [(0, .ref 14), (1, .int (nI a)), (2, .int (nI b)), (3, .int (((Int32.ofInt 1) <<< (nI a &&& 31)) ||| ((Int32.ofInt 1) <<< (nI b &&& 31)))), (4, .int (nI s))] [] h (fun v h' => h = h' ∧ v = some (.int (bl (aln (gp W a b) (2 ^ m))))) := by
  have p12 : 2 ^ m ≤ 4096 := show 2 ^ m ≤ 2 ^ 12 from Nat.pow_le_pow_right (by decide) m12
  intro n
  induction n with
  | zero =>
    intro f s sn w
    have e : s = 2 ^ m := by omega
    subst e
    refine xq_n 68 [] [] [.int (Int32.ofInt 1)] h [true] 60 hq rfl ⟨gtt A m12, trivial⟩ (fun _ => ?_)
    exact xq_ret rfl rfl rfl ⟨rfl, by rw [w]; rfl⟩
  | succ n ih =>
    intro f s sn w
    have hs : s < 2 ^ m := by omega
    have g2 := and2 (s := s) (a := a) (b := b) (by omega) (by omega) (by omega)
    cases c1 : (!s.testBit a && !s.testBit b) with
    | false =>
      have z : gp W a b s = true := by unfold gp; rw [c1]; rfl
      rw [c1] at g2
      refine xq_n 11 [0, 1, 2, 3, 4] [(0, .ref 14), (1, .int (nI a)), (2, .int (nI b)), (3, .int (((Int32.ofInt 1) <<< (nI a &&& 31)) ||| ((Int32.ofInt 1) <<< (nI b &&& 31)))), (4, .int (nI s + Int32.ofInt 1))] [] h [false, true] 60 hq rfl ⟨gtf A m12 hs, g2, trivial⟩ (fun _ => ?_)
      rw [nI_1']
      exact ih f (s + 1) (by omega) (aln_s w z)
    | true =>
      rw [c1] at g2
      refine xq_n 37 [0, 1, 2, 3, 4] [(0, .ref 14), (1, .int (nI a)), (2, .int (nI b)), (3, .int (((Int32.ofInt 1) <<< (nI a &&& 31)) ||| ((Int32.ofInt 1) <<< (nI b &&& 31)))), (4, .int (nI s))] [.int (nI s ||| (Int32.ofInt 1 <<< (nI b &&& 31))), va_rf (xg none h.2.2.2 14 6)] h [false, false] 60 hq rfl ⟨gtf A m12 hs, g2, trivial⟩ (fun _ => ?_)
      rw [A.1, show nI s ||| (Int32.ofInt 1 <<< (nI b &&& 31)) = nI (s ||| 2 ^ b) from nI_o1 (by omega)]
      refine xq_cr (As := [.ref q, .int (nI (s ||| 2 ^ b))]) (mj := xmi_X7_holds) (q := []) rfl rfl (fun _ _ => rfl) (xa_cs_ok (d := 0) (pc := 0) (lv := []) (nL := 0) A.2.1 rfl).1 (fun f => hl_q A m12 (or_p hs hb) hq) ?_
      rintro v h1 ⟨rfl, rfl⟩
      cases c2 : W (s ||| 2 ^ b) with
      | false =>
        have z : gp W a b s = true := by unfold gp; rw [c1, c2]; rfl
        refine xq_n 11 [0, 1, 2, 3, 4] [(0, .ref 14), (1, .int (nI a)), (2, .int (nI b)), (3, .int (((Int32.ofInt 1) <<< (nI a &&& 31)) ||| ((Int32.ofInt 1) <<< (nI b &&& 31)))), (4, .int (nI s + Int32.ofInt 1))] [] h [true] 60 hq rfl ⟨rfl, trivial⟩ (fun _ => ?_)
        rw [nI_1']
        exact ih f (s + 1) (by omega) (aln_s w z)
      | true =>
        refine xq_n 53 [0, 1, 2, 3, 4] [(0, .ref 14), (1, .int (nI a)), (2, .int (nI b)), (3, .int (((Int32.ofInt 1) <<< (nI a &&& 31)) ||| ((Int32.ofInt 1) <<< (nI b &&& 31)))), (4, .int (nI s))] [.int (nI s ||| (Int32.ofInt 1 <<< (nI a &&& 31))), va_rf (xg none h.2.2.2 14 6)] h [false] 60 hq rfl ⟨rfl, trivial⟩ (fun _ => ?_)
        rw [A.1, show nI s ||| (Int32.ofInt 1 <<< (nI a &&& 31)) = nI (s ||| 2 ^ a) from nI_o1 (by omega)]
        refine xq_cr (As := [.ref q, .int (nI (s ||| 2 ^ a))]) (mj := xmi_X7_holds) (q := []) rfl rfl (fun _ _ => rfl) (xa_cs_ok (d := 0) (pc := 0) (lv := []) (nL := 0) A.2.1 rfl).1 (fun f => hl_q A m12 (or_p hs ha) hq) ?_
        rintro v h1 ⟨rfl, rfl⟩
        cases c3 : W (s ||| 2 ^ a) with
        | true =>
          have z : gp W a b s = true := by unfold gp; rw [c1, c2, c3]; rfl
          refine xq_n 11 [0, 1, 2, 3, 4] [(0, .ref 14), (1, .int (nI a)), (2, .int (nI b)), (3, .int (((Int32.ofInt 1) <<< (nI a &&& 31)) ||| ((Int32.ofInt 1) <<< (nI b &&& 31)))), (4, .int (nI s + Int32.ofInt 1))] [] h [true] 60 hq rfl ⟨rfl, trivial⟩ (fun _ => ?_)
          rw [nI_1']
          exact ih f (s + 1) (by omega) (aln_s w z)
        | false =>
          have z : gp W a b s = false := by unfold gp; rw [c1, c2, c3]; rfl
          refine xq_n 60 [] [] [.int (Int32.ofInt 0)] h [false] 60 hq rfl ⟨rfl, trivial⟩ (fun _ => ?_)
          exact xq_ret rfl rfl rfl ⟨rfl, by rw [aln_f z (2 ^ m) hs]; rfl⟩
theorem ial_q {f a b : Nat} {h : xh_H} (A : LA W m q r h) (m12 : m ≤ 12) (ha : a < m) (hb : b < m) (hq : a_rq a_tb h) : xq f xi_X2_isAtLeast xmi_X2_isAtLeast 0 [(0, .ref 14), (1, .int (nI a)), (2, .int (nI b))] [] h (fun v h' => h = h' ∧ v = some (.int (bl (aln (gp W a b) (2 ^ m))))) := by
  refine xq_n 11 [0, 1, 2, 3, 4] [(0, .ref 14), (1, .int (nI a)), (2, .int (nI b)), (3, .int (((Int32.ofInt 1) <<< (nI a &&& 31)) ||| ((Int32.ofInt 1) <<< (nI b &&& 31)))), (4, .int (Int32.ofInt 0))] [] h [] 60 hq rfl trivial (fun _ => ?_)
  exact ial_l A m12 ha hb hq (2 ^ m) f 0 (by omega) rfl
def S19 (c _k : Nat) : Bool := Nat.beq c 19
set_option maxRecDepth 100000 in
set_option maxHeartbeats 4000000 in
/-- Powers.compareAll -/
theorem cal_in {hb : xh_H} (A : LA W m q r hb) (m12 : m ≤ 12) {a : Nat} (ha : a < m) {Q : Option Value → xh_H → Prop} (K : ∀ (f : Nat) (h : xh_H), a_rq a_tb h → fx S19 fN hb h → (∀ a', a' < a + 1 → xg 0 h.2.1 19 a' = nI (msk (fun b => aln (gp W a' b) (2 ^ m)) m)) → xq f xi_X2_compareAll xmi_X2_compareAll 2 [(0, .ref 14), (1, .int (nI (a + 1)))] [] h Q) : ∀ (n f b : Nat) (h : xh_H), b + n = m → a_rq a_tb h → fx S19 fN hb h → (∀ a', a' < a → xg 0 h.2.1 19 a' = nI (msk (fun b => aln (gp W a' b) (2 ^ m)) m)) → xg 0 h.2.1 19 a = nI (msk (fun b => aln (gp W a b) (2 ^ m)) b) → xq f xi_X2_compareAll xmi_X2_compareAll 19 [(0, .ref 14), (1, .int (nI a)), (2, .int (nI b))] [] h Q := by
  intro n
  induction n with
  | zero =>
    intro f b h hn hq ge w w1
    have e : b = m := by omega
    subst e
    have A' := LA_f A ge rfl rfl
    refine xq_n 2 [0, 1] [(0, .ref 14), (1, .int (nI a + Int32.ofInt 1))] [] h [true] 60 hq rfl ⟨(show xe_c .ge (nI b) (xg 0 h.2.1 14 7) = true by rw [A'.2.2.2.2.1]; exact nge_t (by omega) (by omega) (Nat.le_refl _)), trivial⟩ (fun _ => ?_)
    rw [nI_1']
    refine K f h hq ge (fun a' ha' => ?_)
    by_cases z : a' = a
    · rw [z]; exact w1
    · exact w a' (by omega)
  | succ n ih =>
    intro f b h hn hq ge w w1
    have A' := LA_f A ge rfl rfl
    have es : msk (fun b => aln (gp W a b) (2 ^ m)) (b + 1) = if aln (gp W a b) (2 ^ m) = true then msk (fun b => aln (gp W a b) (2 ^ m)) b ||| 2 ^ b else msk (fun b => aln (gp W a b) (2 ^ m)) b := rfl
    refine xq_n 30 [0, 1, 2] [(0, .ref 14), (1, .int (nI a)), (2, .int (nI b))] [.int (nI b), .int (nI a), .ref 14] h [false] 60 hq rfl ⟨(show xe_c .ge (nI b) (xg 0 h.2.1 14 7) = false by rw [A'.2.2.2.2.1]; exact nge_f (by omega) (by omega) (by omega)), trivial⟩ (fun _ => ?_)
    refine xq_run hq rfl rfl (ial_q A' m12 ha (by omega) hq) ?_
    rintro v h1 ⟨rfl, rfl⟩
    cases c : aln (gp W a b) (2 ^ m) with
    | false =>
      refine xq_n 19 [0, 1, 2] [(0, .ref 14), (1, .int (nI a)), (2, .int (nI b + Int32.ofInt 1))] [] h [true] 60 hq rfl ⟨rfl, trivial⟩ (fun _ => ?_)
      rw [nI_1']
      exact ih f (b + 1) h (by omega) hq ge w (by rw [es, c, if_neg (by decide)]; exact w1)
    | true =>
      refine xq_n 19 [0, 1, 2] [(0, .ref 14), (1, .int (nI a)), (2, .int (nI b + Int32.ofInt 1))] [] (xh_ui h 19 (nI a).toNatClampNeg (xg 0 h.2.1 19 (nI a).toNatClampNeg ||| (Int32.ofInt 1 <<< (nI b &&& 31)))) [false] 60 hq rfl ⟨rfl, trivial⟩ (fun _ => ?_)
      rw [nI_1', show (nI a).toNatClampNeg = a from nI_clamp (by omega), w1, nI_o1 (by omega)]
      exact ih f (b + 1) _ (by omega) (a_rq_ui hq) (fx_ui ge rfl) (fun a' ha' => (gx_k (by omega)).trans (w a' ha')) (by rw [gx_s, es, c, if_pos rfl])
set_option maxRecDepth 100000 in
set_option maxHeartbeats 4000000 in
theorem cal_l {hb : xh_H} (A : LA W m q r hb) (m12 : m ≤ 12) : ∀ (n f a : Nat) (h : xh_H), a + n = m → a_rq a_tb h → fx S19 fN hb h → (∀ a', a' < a → xg 0 h.2.1 19 a' = nI (msk (fun b => aln (gp W a' b) (2 ^ m)) m)) → xq f xi_X2_compareAll xmi_X2_compareAll 2 [(0, .ref 14), (1, .int (nI a))] [] h (fun v h' => v = none ∧ fx S19 fN hb h' ∧ ∀ a', a' < m → xg 0 h'.2.1 19 a' = nI (msk (fun b => aln (gp W a' b) (2 ^ m)) m)) := by
  intro n
  induction n with
  | zero =>
    intro f a h hn hq ge w
    have e : a = m := by omega
    subst e
    have A' := LA_f A ge rfl rfl
    refine xq_n 60 [] [] [] h [true] 60 hq rfl ⟨(show xe_c .ge (nI a) (xg 0 h.2.1 14 7) = true by rw [A'.2.2.2.2.1]; exact nge_t (by omega) (by omega) (Nat.le_refl _)), trivial⟩ (fun _ => ?_)
    exact xq_ret rfl rfl rfl ⟨rfl, ge, w⟩
  | succ n ih =>
    intro f a h hn hq ge w
    have A' := LA_f A ge rfl rfl
    refine xq_n 19 [0, 1, 2] [(0, .ref 14), (1, .int (nI a)), (2, .int (Int32.ofInt 0))] [] (xh_ui h 19 (nI a).toNatClampNeg (Int32.ofInt 0)) [false] 60 hq rfl ⟨(show xe_c .ge (nI a) (xg 0 h.2.1 14 7) = false by rw [A'.2.2.2.2.1]; exact nge_f (by omega) (by omega) (by omega)), trivial⟩ (fun _ => ?_)
    rw [show (nI a).toNatClampNeg = a from nI_clamp (by omega)]
    exact cal_in A m12 (show a < m by omega) (fun f h hq ge w => ih f (a + 1) h (by omega) hq ge w) m f 0 _ (by omega) (a_rq_ui hq) (fx_ui ge rfl) (fun a' ha' => (gx_k (by omega)).trans (w a' ha')) (by rw [gx_s]; rfl)
theorem cal_q {f : Nat} {hb : xh_H} (A : LA W m q r hb) (m12 : m ≤ 12) (hq : a_rq a_tb hb) : xq f xi_X2_compareAll xmi_X2_compareAll 0 [(0, .ref 14)] [] hb (fun v h' => v = none ∧ fx S19 fN hb h' ∧ ∀ a', a' < m → xg 0 h'.2.1 19 a' = nI (msk (fun b => aln (gp W a' b) (2 ^ m)) m)) := by
  refine xq_n 2 [0, 1] [(0, .ref 14), (1, .int (Int32.ofInt 0))] [] hb [] 60 hq rfl trivial (fun _ => ?_)
  exact cal_l A m12 m f 0 hb (by omega) hq fx_0 (fun a' ha' => absurd ha' (Nat.not_lt_zero a'))
end
/-- how many least ones are told -/
def lcn (P : Nat → Bool) (N : Nat) : Nat := min (cnt P N) 924
theorem mn_e {n : Nat} (h : n < 2 ^ 31) : mn n = nI (min n 924) := by
  unfold mn
  by_cases z : n ≤ 924
  · rw [if_neg (fun y => by have := Int32.lt_iff_toInt_lt.mp y; rw [nI_toInt h] at this; have e : (924 : Int32).toInt = 924 := rfl; omega), Nat.min_eq_left z]
  · rw [if_pos (Int32.lt_iff_toInt_lt.mpr (by rw [nI_toInt h]; show (924 : Int) < _; omega)), Nat.min_eq_right (by omega)]
    rfl
/-- a row of sets -/
def rwQ (P : Nat → Bool) (N c : Nat) (h : xh_H) : Prop := ∀ t, t < N → P t = true → rk P N t < 924 → xg 0 h.2.1 c (rk P N t) = nI t
/-- what Powers has told fits what it looks at -/
def PD (W : Nat → Bool) (m : Nat) (h : xh_H) : Prop := (∀ a, a < m → xg 0 h.2.1 17 a = nI (cnt (tw W a) (2 ^ m))) ∧ (∀ a, a < m → xg 0 h.2.1 19 a = nI (msk (fun b => aln (gp W a b) (2 ^ m)) m)) ∧ (xg 0 h.2.1 14 9 = nI (lcn (mi W m false) (2 ^ m)) ∧ rwQ (mi W m false) (2 ^ m) 15 h) ∧ (xg 0 h.2.1 14 10 = nI (lcn (mi W m true) (2 ^ m)) ∧ rwQ (mi W m true) (2 ^ m) 16 h) ∧ xg 0 h.2.1 14 11 = nf (fun k => xg 0 h.2.1 15 k) (cond (xe_c .le (nI (lcn (mi W m false) (2 ^ m))) 0) 0 (nI (2 ^ m - 1))) (lcn (mi W m false) (2 ^ m)) ∧ xg 0 h.2.1 14 12 = idf (fun k => xg 0 h.2.1 15 k) (nI (2 ^ m - 1)) (lcn (mi W m false) (2 ^ m))
theorem PD_c {W : Nat → Bool} {m : Nat} {h h' : xh_H} (e : ∀ c k, (c = 14 ∧ 9 ≤ k ∧ k ≤ 12) ∨ c = 15 ∨ c = 16 ∨ c = 17 ∨ c = 19 → xg 0 h'.2.1 c k = xg 0 h.2.1 c k) (P : PD W m h) : PD W m h' := by
  obtain ⟨p1, p2, ⟨p3, p4⟩, ⟨p5, p6⟩, p7, p8⟩ := P
  have e15 : (fun k => xg 0 h'.2.1 15 k) = fun k => xg 0 h.2.1 15 k := funext (fun k => e 15 k (by omega))
  refine ⟨fun a ha => (e 17 a (by omega)).trans (p1 a ha), fun a ha => (e 19 a (by omega)).trans (p2 a ha), ⟨(e 14 9 (by omega)).trans p3, fun t h1 h2 h3 => (e 15 _ (by omega)).trans (p4 t h1 h2 h3)⟩, ⟨(e 14 10 (by omega)).trans p5, fun t h1 h2 h3 => (e 16 _ (by omega)).trans (p6 t h1 h2 h3)⟩, ?_, ?_⟩
  · rw [e15]; exact (e 14 11 (by omega)).trans p7
  · rw [e15]; exact (e 14 12 (by omega)).trans p8
/-- what study may change -/
def SY (c k : Nat) : Bool := (Nat.beq c 14 && Nat.ble 7 k) || (Nat.ble 15 c && Nat.ble c 19)
theorem SY_w {S : Nat → Nat → Bool} {h h1 h2 : xh_H} (hS : ∀ c k, SY c k = false → S c k = false) (g : fx SY fN h h1) (g2 : fx S fN h1 h2) : fx SY fN h h2 := fx_t g (fx_w g2 hS (fun _ _ z => z))
theorem SY_o {c k : Nat} (h : SY c k = false) : ¬ (c = 14 ∧ 7 ≤ k) ∧ ¬ (15 ≤ c ∧ c ≤ 19) := by
  unfold SY at h
  rw [Bool.or_eq_false_iff] at h
  refine ⟨fun z => ?_, fun z => ?_⟩
  · rw [z.1, Nat.ble_eq_true_of_le z.2] at h; exact absurd h.1 (by decide)
  · rw [Nat.ble_eq_true_of_le z.1, Nat.ble_eq_true_of_le z.2] at h; exact absurd h.2 (by decide)
theorem nbeq_f {a b : Nat} (h : a ≠ b) : Nat.beq a b = false := by
  cases z : Nat.beq a b with
  | false => rfl
  | true => exact absurd (Nat.eq_of_beq_eq_true z) h
theorem SY_15 {c k : Nat} (h : SY c k = false) : SL15 c k = false := by
  have := SY_o h
  unfold SL15
  rw [nbeq_f (by omega), nbeq_f (by omega)]; rfl
theorem SY_16 {c k : Nat} (h : SY c k = false) : SL16 c k = false := by
  have := SY_o h
  unfold SL16
  rw [nbeq_f (by omega), nbeq_f (by omega)]; rfl
theorem SY_19 {c k : Nat} (h : SY c k = false) : S19 c k = false := by
  have := SY_o h
  exact nbeq_f (by omega)
theorem SY_M {c k : Nat} (h : SY c k = false) : SM c k = false := by
  have := SY_o h
  unfold SM
  by_cases z : c = 14
  · rw [nbeq_f (show k ≠ 11 by omega), nbeq_f (show k ≠ 12 by omega)]; cases Nat.beq c 14 <;> rfl
  · rw [nbeq_f z]; rfl
/-- what study leaves -/
def Yf (h h' : xh_H) : Prop := h'.1 = h.1 ∧ (∀ c k, SY c k = false → xg 0 h'.2.1 c k = xg 0 h.2.1 c k) ∧ (∀ c k, xg 0 h'.2.2.1 c k = xg 0 h.2.2.1 c k) ∧ ∀ c k, (c ≠ 14 ∨ k ≠ 6) → xg none h'.2.2.2 c k = xg none h.2.2.2 c k
def S17 (c _k : Nat) : Bool := Nat.beq c 17
theorem SY_17 {c k : Nat} (h : SY c k = false) : S17 c k = false := by
  have := SY_o h
  exact nbeq_f (by omega)
set_option maxRecDepth 100000 in
set_option maxHeartbeats 4000000 in
theorem syl_q {W : Nat → Bool} {m q r : Nat} {hb : xh_H} (A : LA W m q r hb) (m12 : m ≤ 12) {Q : Option Value → xh_H → Prop} (K : ∀ (f : Nat) (h : xh_H), a_rq a_tb h → fx S17 fN hb h → (∀ a', a' < m → xg 0 h.2.1 17 a' = nI (cnt (tw W a') (2 ^ m))) → xq f xi_X2_study xmi_X2_study 87 [] [.ref 14] h Q) : ∀ (n f a : Nat) (h : xh_H), a + n = m → a_rq a_tb h → fx S17 fN hb h → (∀ a', a' < a → xg 0 h.2.1 17 a' = nI (cnt (tw W a') (2 ^ m))) → xq f xi_X2_study xmi_X2_study 61 [(0, .ref 14), (3, .int (nI a))] [] h Q := by
  intro n
  induction n with
  | zero =>
    intro f a h hn hq ge w
    have e : a = m := by omega
    subst e
    have A' := LA_f A ge rfl rfl
    refine xq_n 87 [] [] [.ref 14] h [true] 60 hq rfl ⟨(show xe_c .ge (nI a) (xg 0 h.2.1 14 7) = true by rw [A'.2.2.2.2.1]; exact nge_t (by omega) (by omega) (Nat.le_refl _)), trivial⟩ (fun _ => ?_)
    exact K f h hq ge w
  | succ n ih =>
    intro f a h hn hq ge w
    have A' := LA_f A ge rfl rfl
    refine xq_n 76 [0, 3] [(0, .ref 14), (3, .int (nI a))] [.int (nI a), .ref 14, .int (nI a), .ref 17] h [false] 60 hq rfl ⟨(show xe_c .ge (nI a) (xg 0 h.2.1 14 7) = false by rw [A'.2.2.2.2.1]; exact nge_f (by omega) (by omega) (by omega)), trivial⟩ (fun _ => ?_)
    refine xq_run hq rfl rfl (csw_q A' m12 (show a < m by omega) hq) ?_
    rintro v h1 ⟨rfl, rfl⟩
    refine xq_n 61 [0, 3] [(0, .ref 14), (3, .int (nI a + Int32.ofInt 1))] [] (xh_ui h 17 (nI a).toNatClampNeg (nI (cnt (tw W a) (2 ^ m)))) [] 60 hq rfl trivial (fun _ => ?_)
    rw [nI_1', show (nI a).toNatClampNeg = a from nI_clamp (by omega)]
    refine ih f (a + 1) _ (by omega) (a_rq_ui hq) (fx_ui ge rfl) (fun a' ha' => ?_)
    by_cases z : a' = a
    · rw [z, gx_s]
    · exact (gx_k (by omega)).trans (w a' (by omega))
set_option maxRecDepth 100000 in
set_option maxHeartbeats 4000000 in
/-- Powers.study -/
theorem stu_q {f : Nat} {W : Nat → Bool} {m q r l : Nat} {h : xh_H} (hi : a_inv a_tb h) (hn : 72 ≤ h.1.length) (hl : xg none h.2.2.2 14 6 = some l) (hq2 : a_r h.1.length 11 q) (hs : h.1[q]? = some (0, 7)) (hg : xg none h.2.2.2 q 1 = some r) (hr : h.1[r]? = some (4, 64)) (m1 : 1 ≤ m) (m12 : m ≤ 12) (hW : ∀ s, s < 2 ^ m → hv h r s = W s) (hP : l = q → xg 0 h.2.1 14 7 = nI m → xg 0 h.2.1 14 8 = nI (2 ^ m - 1) ∧ PD W m h) : xq f xi_X2_study xmi_X2_study 0 [(0, .ref 14), (1, .ref q), (2, .int (nI m))] [] h (fun v h' => v = none ∧ LA W m q r h' ∧ PD W m h' ∧ Yf h h') := by
  have hq := a_rq_of hi.1 hn
  have p12 : 2 ^ m ≤ 4096 := show 2 ^ m ≤ 2 ^ 12 from Nat.pow_le_pow_right (by decide) m12
  have hs14 : h.1[14]? = some (0, 2) := hq.2.1 14 _ rfl
  have q14 : q ≠ 14 := fun e => by rw [e, hs14] at hs; cases hs
  obtain ⟨l', l1, l2⟩ : ∃ l, xg none h.2.2.2 14 6 = some l ∧ a_r h.1.length 11 l := (hi.1 14 _ hs14).2 6 (by decide)
  rw [hl] at l1
  cases l1
  refine xq_n 3 [0, 1, 2] [(0, .ref 14), (1, .ref q), (2, .int (nI m))] [.int (nI m), .ref q, .ref 14] h [] 60 hq rfl trivial (fun _ => ?_)
  refine xq_run hq rfl rfl (xq_of (d := 0) ⟨_, rfl⟩ (io_run (d := 0) hi.1 hn hl l2.1 hq2.1 m12)) ?_
  rintro v h1 ⟨rfl, p, rfl, hp⟩
  have ur : ∀ c k, (c ≠ 14 ∨ k ≠ 6) → xg none (xh_ur h 14 6 (some q)).2.2.2 c k = xg none h.2.2.2 c k := fun c k z => by
    by_cases y : c = 14
    · subst y; exact xh_up_k (by omega)
    · exact congrFun (xh_up_o y) k
  cases p with
  | true =>
    obtain ⟨rfl, e7⟩ := hp.mp rfl
    obtain ⟨e8, PP⟩ := hP rfl e7
    refine xq_n 9 [] [] [] h [false] 60 hq rfl ⟨rfl, trivial⟩ (fun _ => ?_)
    refine xq_ret rfl rfl rfl ⟨rfl, ⟨hl, hs, hg, hr, e7, e8, hW⟩, PP, rfl, fun _ _ _ => rfl, fun _ _ => rfl, fun _ _ _ => rfl⟩
  | false =>
    refine xq_n 12 [0, 1, 2] [(0, .ref 14), (1, .ref q), (2, .int (nI m))] [.ref q, .ref 14] h [true] 60 hq rfl ⟨rfl, trivial⟩ (fun _ => ?_)
    refine xq_st rfl rfl (fun _ _ => xe_pr hs14 rfl) ?_
    have hi1 : a_inv a_tb (xh_ur h 14 6 (some q)) := a_inv_ur (e := (2, 11, 0)) hi hs14 (by rw [a_tg_lt (by decide)]; rfl) (Or.inl rfl) hq2
    have q1 : a_rq a_tb (xh_ur h 14 6 (some q)) := a_rq_of hi1.1 hn
    have ef : ((Int32.ofInt 1) <<< ((nI m) &&& 31)) - (Int32.ofInt 1) = nI (2 ^ m - 1) := by
      rw [sh1 m (by omega)]
      exact nI_sub (b := 1) (Nat.two_pow_pos m)
    refine xq_n 29 [0, 1, 2] [(0, .ref 14), (1, .ref q), (2, .int (nI m))] [] (xh_ui (xh_ui (xh_ur h 14 6 (some q)) 14 7 (nI m)) 14 8 (((Int32.ofInt 1) <<< ((nI m) &&& 31)) - (Int32.ofInt 1))) [] 60 q1 rfl trivial (fun _ => ?_)
    rw [ef]
    generalize hh : xh_ur h 14 6 (some q) = h0 at q1 ur
    have q3 : a_rq a_tb (xh_ui (xh_ui h0 14 7 (nI m)) 14 8 (nI (2 ^ m - 1))) := a_rq_ui (a_rq_ui q1)
    have g3 : fx SY fN h0 (xh_ui (xh_ui h0 14 7 (nI m)) 14 8 (nI (2 ^ m - 1))) := fx_ui (fx_ui fx_0 rfl) rfl
    have A3 : LA W m q r (xh_ui (xh_ui h0 14 7 (nI m)) 14 8 (nI (2 ^ m - 1))) := by
      refine ⟨?_, ?_, ?_, ?_, by rw [gx_k (by decide), gx_s], gx_s, fun s hs' => ?_⟩
      · show xg none h0.2.2.2 14 6 = some q
        rw [← hh]; exact xh_up_s
      · show h0.1[q]? = _
        rw [← hh]; exact hs
      · exact (ur q 1 (Or.inl q14)).trans hg
      · show h0.1[r]? = _
        rw [← hh]; exact hr
      · have e : ∀ k, xg 0 (xh_ui (xh_ui h0 14 7 (nI m)) 14 8 (nI (2 ^ m - 1))).2.2.1 r k = xg 0 h.2.2.1 r k := fun k => by
          show xg 0 h0.2.2.1 r k = _
          rw [← hh]; rfl
        exact (hv_ee e).trans (hW s hs')
    generalize xh_ui (xh_ui h0 14 7 (nI m)) 14 8 (nI (2 ^ m - 1)) = h3 at q3 g3 A3
    refine xq_n 36 [0] [(0, .ref 14)] [.int (Int32.ofInt 0), .ref 15, .ref 14, .ref 14] h3 [] 60 q3 rfl trivial (fun _ => ?_)
    refine xq_run q3 rfl rfl (lz15_q (hd := false) A3 m12 q3) ?_
    rintro v h4 ⟨rfl, g4, w15⟩
    have q4 := fx_q g4 q3
    have A4 := LA_f A3 g4 rfl rfl
    have cl : ∀ hd, cnt (mi W m hd) (2 ^ m) < 2 ^ 31 := fun hd => Nat.lt_of_le_of_lt (cnt_le _) (by omega)
    rw [mn_e (cl false)]
    refine xq_n 49 [0] [(0, .ref 14)] [.int (Int32.ofInt 1), .ref 16, .ref 14, .ref 14] (xh_ui h4 14 9 (nI (lcn (mi W m false) (2 ^ m)))) [] 60 q4 rfl trivial (fun _ => ?_)
    have q5 : a_rq a_tb (xh_ui h4 14 9 (nI (lcn (mi W m false) (2 ^ m)))) := a_rq_ui q4
    have g5 : fx SY fN h0 (xh_ui h4 14 9 (nI (lcn (mi W m false) (2 ^ m)))) := fx_ui (SY_w (fun _ _ => SY_15) g3 g4) rfl
    have A5 : LA W m q r (xh_ui h4 14 9 (nI (lcn (mi W m false) (2 ^ m)))) := LA_f (S := fun c k => Nat.beq c 14 && Nat.beq k 9) A4 (fx_ui fx_0 rfl) rfl rfl
    have e9 : xg 0 (xh_ui h4 14 9 (nI (lcn (mi W m false) (2 ^ m)))).2.1 14 9 = nI (lcn (mi W m false) (2 ^ m)) := gx_s
    have w15 : rwQ (mi W m false) (2 ^ m) 15 (xh_ui h4 14 9 (nI (lcn (mi W m false) (2 ^ m)))) := fun t h1 h2 h3 => (gx_o (by decide)).trans (w15 t h1 h2 h3)
    generalize xh_ui h4 14 9 (nI (lcn (mi W m false) (2 ^ m))) = h5 at q5 g5 A5 e9 w15
    refine xq_run q5 rfl rfl (lz16_q (hd := true) A5 m12 q5) ?_
    rintro v h6 ⟨rfl, g6, w16⟩
    have q6 := fx_q g6 q5
    have A6 := LA_f A5 g6 rfl rfl
    rw [mn_e (cl true)]
    refine xq_n 56 [0] [(0, .ref 14)] [.ref 14] (xh_ui h6 14 10 (nI (lcn (mi W m true) (2 ^ m)))) [] 60 q6 rfl trivial (fun _ => ?_)
    have q7 : a_rq a_tb (xh_ui h6 14 10 (nI (lcn (mi W m true) (2 ^ m)))) := a_rq_ui q6
    have g7 : fx SY fN h0 (xh_ui h6 14 10 (nI (lcn (mi W m true) (2 ^ m)))) := fx_ui (SY_w (fun _ _ => SY_16) g5 g6) rfl
    have A7 : LA W m q r (xh_ui h6 14 10 (nI (lcn (mi W m true) (2 ^ m)))) := LA_f (S := fun c k => Nat.beq c 14 && Nat.beq k 10) A6 (fx_ui fx_0 rfl) rfl rfl
    have e9 : xg 0 (xh_ui h6 14 10 (nI (lcn (mi W m true) (2 ^ m)))).2.1 14 9 = nI (lcn (mi W m false) (2 ^ m)) := (gx_k (by decide)).trans ((fx_i g6 rfl).trans e9)
    have e10 : xg 0 (xh_ui h6 14 10 (nI (lcn (mi W m true) (2 ^ m)))).2.1 14 10 = nI (lcn (mi W m true) (2 ^ m)) := gx_s
    have w15 : rwQ (mi W m false) (2 ^ m) 15 (xh_ui h6 14 10 (nI (lcn (mi W m true) (2 ^ m)))) := fun t h1 h2 h3 => (gx_o (by decide)).trans ((fx_i g6 rfl).trans (w15 t h1 h2 h3))
    have w16 : rwQ (mi W m true) (2 ^ m) 16 (xh_ui h6 14 10 (nI (lcn (mi W m true) (2 ^ m)))) := fun t h1 h2 h3 => (gx_o (by decide)).trans (w16 t h1 h2 h3)
    generalize xh_ui h6 14 10 (nI (lcn (mi W m true) (2 ^ m))) = h7 at q7 g7 A7 e9 e10 w15 w16
    refine xq_run q7 rfl rfl (mkn_q (L := lcn (mi W m false) (2 ^ m)) (Nat.min_le_right _ _) e9 q7) ?_
    rintro v h8 ⟨rfl, g8, w11, w12⟩
    have q8 := fx_q g8 q7
    have A8 := LA_f A7 g8 rfl rfl
    refine xq_n 61 [0, 3] [(0, .ref 14), (3, .int (Int32.ofInt 0))] [] h8 [] 60 q8 rfl trivial (fun _ => ?_)
    refine syl_q A8 m12 (fun f h9 q9 g9 w17 => ?_) m f 0 h8 (by omega) q8 fx_0 (fun a' ha' => absurd ha' (Nat.not_lt_zero a'))
    have A9 := LA_f A8 g9 rfl rfl
    refine xq_run q9 rfl rfl (cal_q A9 m12 q9) ?_
    rintro v h10 ⟨rfl, g10, w19⟩
    have k8 : ∀ c k, SM c k = false → S17 c k = false → S19 c k = false → xg 0 h10.2.1 c k = xg 0 h7.2.1 c k := fun c k z1 z2 z3 => (fx_i g10 z3).trans ((fx_i g9 z2).trans (fx_i g8 z1))
    have e15 : (fun k => xg 0 h10.2.1 15 k) = fun k => xg 0 h7.2.1 15 k := funext (fun k => k8 15 k rfl rfl rfl)
    have gg : fx SY fN h0 h10 := SY_w (fun _ _ => SY_19) (SY_w (fun _ _ => SY_17) (SY_w (fun _ _ => SY_M) g7 g8) g9) g10
    refine xq_ret rfl rfl rfl ⟨rfl, LA_f A9 g10 rfl rfl, ⟨fun a ha => (fx_i g10 rfl).trans (w17 a ha), w19, ⟨(k8 14 9 rfl rfl rfl).trans e9, fun t h1 h2 h3 => (k8 15 _ rfl rfl rfl).trans (w15 t h1 h2 h3)⟩, ⟨(k8 14 10 rfl rfl rfl).trans e10, fun t h1 h2 h3 => (k8 16 _ rfl rfl rfl).trans (w16 t h1 h2 h3)⟩, ?_, ?_⟩, gg.1.trans (by rw [← hh]; rfl), fun c k z => (fx_i gg z).trans (by rw [← hh]; rfl), fun c k => (gg.2.2.2 c k rfl).trans (by rw [← hh]; rfl), fun c k z => by rw [gg.2.1]; exact ur c k z⟩
    · rw [e15, ← A7.2.2.2.2.2.1, ← w11]; exact (fx_i g10 rfl).trans (fx_i g9 rfl)
    · rw [e15, ← A7.2.2.2.2.2.1, ← w12]; exact (fx_i g10 rfl).trans (fx_i g9 rfl)
end XPS
end
section
section XPT
/-- the same, if it carries the same -/
theorem tw_c {W W' : Nat → Bool} {m a s : Nat} (e : ∀ s, s < 2 ^ m → W s = W' s) (ha : a < m) (hs : s < 2 ^ m) : tw W a s = tw W' a s := by
  unfold tw
  rw [e s hs, e _ (or_p hs ha)]
theorem tg_c {W W' : Nat → Bool} {m a b s : Nat} (e : ∀ s, s < 2 ^ m → W s = W' s) (ha : a < m) (hb : b < m) (hs : s < 2 ^ m) : tg W a b s = tg W' a b s := by
  unfold tg
  rw [e _ (or_p (or_p hs ha) hb), e _ (or_p hs ha), e _ (or_p hs hb)]
theorem gp_c {W W' : Nat → Bool} {m a b s : Nat} (e : ∀ s, s < 2 ^ m → W s = W' s) (ha : a < m) (hb : b < m) (hs : s < 2 ^ m) : gp W a b s = gp W' a b s := by
  unfold gp
  rw [e _ (or_p hs ha), e _ (or_p hs hb)]
theorem dz_c {W W' : Nat → Bool} {m s : Nat} {hd : Bool} (e : ∀ s, s < 2 ^ m → W s = W' s) (hs : s < 2 ^ m) : dz W m hd s = dz W' m hd s := by
  unfold dz
  rw [e s hs, e _ co_lt]
theorem mi_c {W W' : Nat → Bool} {m s : Nat} {hd : Bool} (e : ∀ s, s < 2 ^ m → W s = W' s) (hs : s < 2 ^ m) : mi W m hd s = mi W' m hd s := by
  unfold mi
  rw [dz_c e hs]
  congr 1
  exact aln_c m (fun a _ => by rw [dz_c e (rmb_lt hs)])
theorem qk_c {P P' : Nat → Bool} {k t : Nat} (e : P t = P' t) : qk P k t = qk P' k t := by unfold qk; rw [e]
theorem cum_c {P P' : Nat → Bool} {N : Nat} (e : ∀ s, s < N → P s = P' s) : ∀ j, cum P N j = cum P' N j := by
  intro j
  induction j with
  | zero => rfl
  | succ j ih =>
    show cum P N j + cnt (qk P j) N = cum P' N j + cnt (qk P' j) N
    rw [ih, cnt_c N (fun k hk' => qk_c (e k hk'))]
theorem rk_c {P P' : Nat → Bool} {N t : Nat} (e : ∀ s, s < N → P s = P' s) (ht : t < N) : rk P N t = rk P' N t := by
  unfold rk
  rw [cum_c e, cnt_c t (fun k hk' => qk_c (e k (by omega)))]
theorem lcn_c {P P' : Nat → Bool} {N : Nat} (e : ∀ s, s < N → P s = P' s) : lcn P N = lcn P' N := by unfold lcn; rw [cnt_c N e]
theorem rwQ_c {P P' : Nat → Bool} {N c : Nat} {h : xh_H} (e : ∀ s, s < N → P s = P' s) (R : rwQ P N c h) : rwQ P' N c h := fun t h1 h2 h3 => by
  rw [← rk_c e h1] at h3 ⊢
  exact R t h1 ((e t h1).trans h2) h3
theorem PD_W {W W' : Nat → Bool} {m : Nat} {h : xh_H} (e : ∀ s, s < 2 ^ m → W s = W' s) (P : PD W m h) : PD W' m h := by
  obtain ⟨p1, p2, ⟨p3, p4⟩, ⟨p5, p6⟩, p7, p8⟩ := P
  have l0 : ∀ hd, lcn (mi W m hd) (2 ^ m) = lcn (mi W' m hd) (2 ^ m) := fun hd => lcn_c (fun s hs => mi_c e hs)
  rw [l0] at p3 p5 p7 p8
  refine ⟨fun a ha => ?_, fun a ha => ?_, ⟨p3, rwQ_c (fun s hs => mi_c e hs) p4⟩, ⟨p5, rwQ_c (fun s hs => mi_c e hs) p6⟩, p7, p8⟩
  · rw [← cnt_c (2 ^ m) (fun s hs => tw_c e ha hs)]; exact p1 a ha
  · rw [p2 a ha, msk_c m (fun b hb => aln_c (2 ^ m) (fun s hs => gp_c e ha hb hs))]
theorem Yf_q {h h' : xh_H} (hi : a_inv a_tb h) (hn : 72 ≤ h.1.length) (Y : Yf h h') : a_rq a_tb h' := by
  have hq := a_rq_of hi.1 hn
  refine ⟨by rw [Y.1]; exact hq.1, fun c s hs => by rw [Y.1]; exact hq.2.1 c s hs, fun c k ci t h1 h2 => ?_⟩
  by_cases z : c = 14 ∧ k = 6
  · obtain ⟨rfl, rfl⟩ := z
    cases h1
    cases h2
  · rw [Y.2.2.2 c k (by omega)]; exact hq.2.2 c k ci t h1 h2
/-- what a statute carries with m members -/
def lw (h : xh_H) (q m s : Nat) : Bool := if q = 11 then decide (s = 2 ^ m - 1) else hv h ((xg none h.2.2.2 q 1).getD 0) s
/-- Powers fits its statute and its members -/
def PI (h : xh_H) : Prop := (∀ q, xg none h.2.2.2 14 6 = some q → q ≠ 11 → ∃ r, xg none h.2.2.2 q 1 = some r ∧ r ≠ 12) ∧ ∀ q m, xg none h.2.2.2 14 6 = some q → xg 0 h.2.1 14 7 = nI m → 1 ≤ m → m ≤ 12 → PD (lw h q m) m h
theorem PI_s {h h' : xh_H} (i : a_inv a_tb h) (l : 72 ≤ h.1.length) (F3 : ∀ c k, h.1[c]? = some (4, 64) → c ≠ 12 → xg 0 h'.2.2.1 c k = xg 0 h.2.2.1 c k) (F5 : ∀ c k, h.1[c]? = some (0, 7) → xg none h'.2.2.2 c k = xg none h.2.2.2 c k) (e6 : xg none h'.2.2.2 14 6 = xg none h.2.2.2 14 6) (e : ∀ c k, (c = 14 ∧ (k = 7 ∨ (9 ≤ k ∧ k ≤ 12))) ∨ c = 15 ∨ c = 16 ∨ c = 17 ∨ c = 19 → xg 0 h'.2.1 c k = xg 0 h.2.1 c k) (P : PI h) : PI h' := by
  have hq := a_rq_of i.1 l
  obtain ⟨q', e', rq⟩ : a_e h 14 6 (2, 11, 0) := ((i.1 14 (0, 2) (hq.2.1 14 (0, 2) rfl)).2 6 (by decide))
  obtain ⟨s1, r, s2, s3⟩ := law_sh i.1 rq
  refine ⟨fun q h1 z => ?_, fun q m h1 h2 m1 m12 => ?_⟩
  · rw [e6, e'] at h1
    cases h1
    rw [F5 _ 1 s1]
    exact P.1 _ e' z
  rw [e6, e'] at h1
  cases h1
  rw [e 14 7 (by omega)] at h2
  have p := PD_c (h' := h') (fun c k z => e c k (by omega)) (P.2 q' m e' h2 m1 m12)
  refine PD_W (fun s hs => ?_) p
  unfold lw
  by_cases z : q' = 11
  · rw [if_pos z, if_pos z]
  · obtain ⟨r', y1, y2⟩ := P.1 q' e' z
    rw [s2] at y1
    cases y1
    rw [if_neg z, if_neg z, F5 q' 1 s1, s2]
    exact (hv_ee (fun k => F3 r k s3 y2)).symm
theorem PI_of {W : Nat → Bool} {m q r : Nat} {h : xh_H} (A : LA W m q r h) (P : PD W m h) (m1 : 1 ≤ m) (m12 : m ≤ 12) (r12 : q ≠ 11 → r ≠ 12) (u : q = 11 → ∀ s, s < 2 ^ m → W s = decide (s = 2 ^ m - 1)) : PI h := by
  refine ⟨fun q' h1 z => ?_, fun q' m' h1 h2 _ m12' => ?_⟩
  · rw [A.1] at h1
    cases h1
    exact ⟨r, A.2.2.1, r12 z⟩
  rw [A.1] at h1
  cases h1
  rw [A.2.2.2.2.1] at h2
  have := congrArg Int32.toInt h2
  rw [nI_toInt (by omega), nI_toInt (by omega)] at this
  have e : m' = m := by omega
  subst e
  refine PD_W (fun s hs => ?_) P
  unfold lw
  by_cases z : q = 11
  · rw [if_pos z]; exact u z s hs
  · rw [if_neg z, A.2.2.1]
    exact (A.2.2.2.2.2.2 s hs).symm
/-- the cells of Powers are not among these -/
def pwM (md : List (Nat × Nat)) : Bool := !a_mb md 14 7 && (!a_mb md 14 9 && (!a_mb md 14 10 && (!a_mb md 14 11 && (!a_mb md 14 12 && (!a_mb md 15 0 && (!a_mb md 16 0 && (!a_mb md 17 0 && !a_mb md 19 0)))))))
theorem pw_e {md : List (Nat × Nat)} {h h' : xh_H} (f : a_fr md h h') (m : pwM md = true) : ∀ c k, (c = 14 ∧ (k = 7 ∨ (9 ≤ k ∧ k ≤ 12))) ∨ c = 15 ∨ c = 16 ∨ c = 17 ∨ c = 19 → xg 0 h'.2.1 c k = xg 0 h.2.1 c k := by
  unfold pwM at m
  simp only [Bool.and_eq_true, Bool.not_eq_true'] at m
  obtain ⟨m1, m2, m3, m4, m5, m6, m7, m8, m9⟩ := m
  intro c k z
  rcases z with ⟨rfl, z⟩ | rfl | rfl | rfl | rfl
  · have : k = 7 ∨ k = 9 ∨ k = 10 ∨ k = 11 ∨ k = 12 := by omega
    rcases this with rfl | rfl | rfl | rfl | rfl
    · exact fr_g f rfl m1
    · exact fr_g f rfl m2
    · exact fr_g f rfl m3
    · exact fr_g f rfl m4
    · exact fr_g f rfl m5
  · exact fr_g f rfl m6
  · exact fr_g f rfl m7
  · exact fr_g f rfl m8
  · exact fr_g f rfl m9
theorem PI_t {md : List (Nat × Nat)} {h h' : xh_H} (i : a_inv a_tb h) (l : 72 ≤ h.1.length) (F : Fs 8 h h') (Z : Qz h h') (f : a_fr md h h') (m : pwM md = true) (P : PI h) : PI h' := PI_s i l (fun c k e _ => F.2.2.1 c k e) F.2.2.2.2.1 (Z.2 14 6 (by rw [(a_rq_of i.1 l).2.1 14 _ rfl]; decide)) (pw_e f m) P
theorem PI_2 {md1 md2 : List (Nat × Nat)} {h h1 h2 : xh_H} (i : a_inv a_tb h) (l : 72 ≤ h.1.length) (i1 : a_inv a_tb h1) (l1 : 72 ≤ h1.1.length) (F1 : Fz h h1) (Z1 : Qz h h1) (f1 : a_fr md1 h h1) (m1 : pwM md1 = true) (F2 : Fz h1 h2) (Z2 : Qz h1 h2) (f2 : a_fr md2 h1 h2) (m2 : pwM md2 = true) (P : PI h) : PI h2 := PI_t i1 l1 (Fs_z (a_rq_of i1.1 l1) F2) Z2 f2 m2 (PI_t i l (Fs_z (a_rq_of i.1 l) F1) Z1 f1 m1 P)
/-- behind a new statute -/
theorem PI_c {md : List (Nat × Nat)} {sc : Nat} {h h' : xh_H} (i : a_inv a_tb h) (l : 72 ≤ h.1.length) (c : cst h h' sc) (f : a_fr md h h') (m : pwM md = true) (P : PI h) : PI h' := by
  have F := Fs_c (a_rq_of i.1 l) c
  exact PI_s i l (fun c k e _ => F.2.2.1 c k e) F.2.2.2.2.1 (c.2.1 14 6 (by omega) (fun z => absurd z (by decide))) (pw_e f m) P
/-- behind members -/
theorem PI_m {b : Bool} {R : Prop} {h h' : xh_H} (i : a_inv a_tb h) (l : 72 ≤ h.1.length) (q : (b = false → h' = h) ∧ (b = true → fx m09 (Lr 12) h h' ∧ R)) (P : PI h) : PI h' := by
  cases b with
  | false => rw [q.1 rfl]; exact P
  | true =>
    obtain ⟨g, -⟩ := q.2 rfl
    refine PI_s i l (fun c k _ z => g.2.2.2 c k ?_) (fun c k _ => by rw [g.2.1]) (by rw [g.2.1]) (fun c k z => fx_i g ?_) P
    · exact nbeq_f z
    · unfold m09
      rw [nbeq_f (by omega)]
      rfl
set_option maxRecDepth 100000 in
set_option maxHeartbeats 4000000 in
/-- X9.powersToday -/
theorem pt9_q {f mem sc : Nat} {d : Int32} {h : xh_H} (hi : a_inv a_tb h) (hn : 72 ≤ h.1.length) (e9 : xg 0 h.2.1 0 9 = nI mem) (m1 : 1 ≤ mem) (m12 : mem ≤ 12) (e8 : xg 0 h.2.1 0 8 = nI sc) (sc8 : sc ≤ 8) (e10 : xg 0 h.2.1 0 10 = d) (si : SI h) (pi : PI h) : xq f xi_X9_powersToday xmi_X9_powersToday 0 [(0, .ref 0)] [] h (fun v h' => v = some (.ref 14) ∧ Yf h h' ∧ PI h' ∧ ∃ q r, LA (cvB (fun k => xg 0 h.2.1 51 k) (fun k => xg 0 h.2.1 44 k) mem sc d) mem q r h' ∧ PD (cvB (fun k => xg 0 h.2.1 51 k) (fun k => xg 0 h.2.1 44 k) mem sc d) mem h') := by
  have hq := a_rq_of hi.1 hn
  have p12 : 2 ^ mem ≤ 4096 := show 2 ^ mem ≤ 2 ^ 12 from Nat.pow_le_pow_right (by decide) m12
  obtain ⟨⟨u1, u2, u3⟩, si⟩ := si
  obtain ⟨SS, un⟩ := si mem sc e9 m12 e8 sc8
  refine xq_n 9 [0] [(0, .ref 0)] [.int (xg 0 h.2.1 0 10), .ref 0, .ref 14] h [] 60 hq rfl trivial (fun _ => ?_)
  rw [e10]
  refine xq_run hq rfl rfl (if9_q hi e8 sc8 u1 u2 SS hq) ?_
  rintro v h1 ⟨rfl, Q, rfl, fd⟩
  refine xq_n 16 [0] [(0, .ref 0)] [.int (xg 0 h.2.1 0 9), .ref Q, .ref 14] h [] 60 hq rfl trivial (fun _ => ?_)
  rw [e9]
  obtain ⟨l, hl, l2⟩ : a_e h 14 6 (2, 11, 0) := ((hi.1 14 (0, 2) (hq.2.1 14 (0, 2) rfl)).2 6 (by decide))
  obtain ⟨r, g1, g2, -⟩ := hv_cv hi m12 SS un u3 hq (s := 0) (Nat.two_pow_pos mem) fd
  have hW : ∀ s, s < 2 ^ mem → hv h r s = cvB (fun k => xg 0 h.2.1 51 k) (fun k => xg 0 h.2.1 44 k) mem sc d s := fun s hs => by
    obtain ⟨r', g1', -, g3⟩ := hv_cv hi m12 SS un u3 hq hs fd
    rw [g1] at g1'
    cases g1'
    exact g3
  have hu : Q = 11 → ∀ s, s < 2 ^ mem → cvB (fun k => xg 0 h.2.1 51 k) (fun k => xg 0 h.2.1 44 k) mem sc d s = decide (s = 2 ^ mem - 1) := fun z s hs => by
    rw [z, u3] at g1
    cases g1
    rw [← hW s hs]
    exact un s (by omega)
  have r12 : Q ≠ 11 → r ≠ 12 := fun z => by
    rcases fd with ⟨f0, ⟨f1, f2, f3⟩ | ⟨j, f1, f2, f3⟩⟩
    · exact absurd f2 z
    · obtain ⟨q, q72, qe, ql, q1, q2, -⟩ := SS j (iF_lt f1)
      rw [q1] at f2
      obtain rfl : q = Q := Option.some.inj f2
      rw [g1] at q2
      have := Option.some.inj q2
      omega
  have rQ : a_r h.1.length 11 Q := by
    rcases fd with ⟨f0, ⟨f1, f2, f3⟩ | ⟨j, f1, f2, f3⟩⟩
    · rw [f2]; exact ⟨by omega, rfl⟩
    · obtain ⟨q, q72, qe, ql, q1, -⟩ := SS j (iF_lt f1)
      rw [q1] at f2
      obtain rfl : q = Q := Option.some.inj f2
      refine ⟨by omega, ?_⟩
      unfold a_tg
      rw [show Nat.blt q 72 = false by cases y : Nat.blt q 72 with | false => rfl | true => (have := Nat.le_of_ble_eq_true y; omega), qe]
      rfl
  refine xq_run hq rfl rfl (stu_q (r := r) hi hn hl rQ fd.1 g1 g2 m1 m12 hW (fun e e7 => ?_)) ?_
  · subst e
    have J := hi.2.1
    rw [e7, nI_toInt (by omega)] at J
    refine ⟨Int32.toInt_inj.mp ?_, PD_W (fun s hs => ?_) (pi.2 l mem hl e7 m1 m12)⟩
    · have := Nat.two_pow_pos mem
      rw [J, nI_toInt (by omega)]
      show ((2 ^ (mem : Int).toNat : Nat) : Int) - 1 = _
      rw [Int.toNat_natCast]
      omega
    · unfold lw
      by_cases z : l = 11
      · rw [if_pos z]; exact (hu z s hs).symm
      · rw [if_neg z, g1]; exact hW s hs
  · rintro v h2 ⟨rfl, A, P, Y⟩
    have hq2 : a_rq a_tb h2 := Yf_q hi hn Y
    refine xq_n 23 [] [] [.ref 14] h2 [] 60 hq2 rfl trivial (fun _ => ?_)
    exact xq_ret rfl rfl rfl ⟨rfl, Y, PI_of A P m1 m12 r12 hu, Q, r, A, P⟩
set_option maxRecDepth 100000 in
set_option maxHeartbeats 4000000 in
theorem tu9_q {f mem sc : Nat} {x d : Int32} {h : xh_H} (hi : a_inv a_tb h) (hn : 72 ≤ h.1.length) (e9 : xg 0 h.2.1 0 9 = nI mem) (m1 : 1 ≤ mem) (m12 : mem ≤ 12) (e8 : xg 0 h.2.1 0 8 = nI sc) (sc8 : sc ≤ 8) (e10 : xg 0 h.2.1 0 10 = d) (si : SI h) (pi : PI h) : xq f xi_X9_turns xmi_X9_turns 0 [(0, .ref 0), (1, .int x)] [] h (fun v h' => v = some (.int (tuA (cvB (fun k => xg 0 h.2.1 51 k) (fun k => xg 0 h.2.1 44 k) mem sc d) mem x)) ∧ PI h') := by
  have hq := a_rq_of hi.1 hn
  refine xq_n 2 [0, 1] [(0, .ref 0), (1, .int x)] [.int x, .ref 0] h [] 60 hq rfl trivial (fun _ => ?_)
  refine xq_run hq rfl rfl (mem9_q (z := nI mem) e9 hq) ?_
  rintro v h1 ⟨rfl, rfl⟩
  unfold tuA isM
  cases c1 : (!xe_c .lt x 0 && !xe_c .ge x (nI mem)) with
  | false =>
    refine xq_n 21 [] [] [.int (Int32.ofInt (-1))] h [true] 60 hq rfl ⟨rfl, trivial⟩ (fun _ => ?_)
    exact xq_ret rfl rfl rfl ⟨rfl, pi⟩
  | true =>
    obtain ⟨a, rfl, al, ea⟩ := mb_n m12 c1
    rw [ea]
    refine xq_n 9 [1] [(1, .int (nI a))] [.ref 0] h [false] 60 hq rfl ⟨rfl, trivial⟩ (fun _ => ?_)
    refine xq_run hq rfl rfl (pt9_q hi hn e9 m1 m12 e8 sc8 e10 si pi) ?_
    rintro v h1 ⟨rfl, Y, PP, q, r, A, P⟩
    have hq1 := Yf_q hi hn Y
    refine xq_n 21 [] [] [.int (xg 0 h1.2.1 17 (nI a).toNatClampNeg)] h1 [] 60 hq1 rfl trivial (fun _ => ?_)
    exact xq_ret rfl rfl rfl ⟨by rw [nI_clamp (by omega), P.1 a al]; rfl, PP⟩
set_option maxRecDepth 100000 in
set_option maxHeartbeats 4000000 in
theorem al9_q {f mem sc : Nat} {x d : Int32} {h : xh_H} (hi : a_inv a_tb h) (hn : 72 ≤ h.1.length) (e9 : xg 0 h.2.1 0 9 = nI mem) (m1 : 1 ≤ mem) (m12 : mem ≤ 12) (e8 : xg 0 h.2.1 0 8 = nI sc) (sc8 : sc ≤ 8) (e10 : xg 0 h.2.1 0 10 = d) (si : SI h) (pi : PI h) : xq f xi_X9_ally xmi_X9_ally 0 [(0, .ref 0), (1, .int x)] [] h (fun v h' => v = some (.int (alA (cvB (fun k => xg 0 h.2.1 51 k) (fun k => xg 0 h.2.1 44 k) mem sc d) mem x)) ∧ PI h') := by
  have hq := a_rq_of hi.1 hn
  refine xq_n 2 [0, 1] [(0, .ref 0), (1, .int x)] [.int x, .ref 0] h [] 60 hq rfl trivial (fun _ => ?_)
  refine xq_run hq rfl rfl (mem9_q (z := nI mem) e9 hq) ?_
  rintro v h1 ⟨rfl, rfl⟩
  unfold alA isM
  cases c1 : (!xe_c .lt x 0 && !xe_c .ge x (nI mem)) with
  | false =>
    refine xq_n 20 [] [] [.int (Int32.ofInt (-1))] h [true] 60 hq rfl ⟨rfl, trivial⟩ (fun _ => ?_)
    exact xq_ret rfl rfl rfl ⟨rfl, pi⟩
  | true =>
    obtain ⟨a, rfl, al, ea⟩ := mb_n m12 c1
    rw [ea]
    refine xq_n 9 [1] [(1, .int (nI a))] [.ref 0] h [false] 60 hq rfl ⟨rfl, trivial⟩ (fun _ => ?_)
    refine xq_run hq rfl rfl (pt9_q hi hn e9 m1 m12 e8 sc8 e10 si pi) ?_
    rintro v h1 ⟨rfl, Y, PP, q, r, A, P⟩
    have hq1 := Yf_q hi hn Y
    refine xq_n 13 [] [] [.int (nI a), .ref 14] h1 [] 60 hq1 rfl trivial (fun _ => ?_)
    refine xq_run hq1 rfl rfl (alo_q A m12 al hq1) ?_
    rintro v h2 ⟨rfl, rfl⟩
    refine xq_n 20 [] [] [.int (alf (fun b => cnt (tg (cvB (fun k => xg 0 h.2.1 51 k) (fun k => xg 0 h.2.1 44 k) mem sc d) a b) (2 ^ mem)) a mem).1] h1 [] 60 hq1 rfl trivial (fun _ => ?_)
    exact xq_ret rfl rfl rfl ⟨rfl, PP⟩
set_option maxRecDepth 100000 in
set_option maxHeartbeats 4000000 in
/-- Powers.compare -/
theorem cmp_q {f a b m : Nat} {W : Nat → Bool} {h : xh_H} (m12 : m ≤ 12) (P : PD W m h) (ha : a < m) (hb : b < m) (hq : a_rq a_tb h) : xq f xi_X2_compare xmi_X2_compare 0 [(0, .ref 14), (1, .int (nI a)), (2, .int (nI b))] [] h (fun v h' => h = h' ∧ v = some (.int (cmv (aln (gp W a b) (2 ^ m)) (aln (gp W b a) (2 ^ m))))) := by
  have bt : ∀ x y, x < m → y < m → (xg 0 h.2.1 19 (nI x).toNatClampNeg >>> (nI y &&& 31)) &&& Int32.ofInt 1 = bl (aln (gp W x y) (2 ^ m)) := fun x y hx hy => by
    rw [nI_clamp (by omega), P.2.1 x hx]
    have l := msk_lt (f := fun b => aln (gp W x b) (2 ^ m)) m
    have p12 : 2 ^ m ≤ 4096 := show 2 ^ m ≤ 2 ^ 12 from Nat.pow_le_pow_right (by decide) m12
    rw [nI_b0 (by omega) (by omega), msk_tb, decide_eq_true hy, Bool.true_and, bl_nI]
  have g1 := be' (bt a b ha hb)
  have g2 := be' (bt b a hb ha)
  cases c1 : aln (gp W a b) (2 ^ m) with
  | true =>
    rw [c1] at g1
    cases c2 : aln (gp W b a) (2 ^ m) with
    | true =>
      rw [c2] at g2
      refine xq_n 53 [] [] [.int (Int32.ofInt 0)] h [false, false, false, false] 60 hq rfl ⟨g1, g2, rfl, rfl, trivial⟩ (fun _ => ?_)
      exact xq_ret rfl rfl rfl ⟨rfl, rfl⟩
    | false =>
      rw [c2] at g2
      refine xq_n 53 [] [] [.int (Int32.ofInt 1)] h [false, true, false, true] 60 hq rfl ⟨g1, g2, rfl, rfl, trivial⟩ (fun _ => ?_)
      exact xq_ret rfl rfl rfl ⟨rfl, rfl⟩
  | false =>
    rw [c1] at g1
    cases c2 : aln (gp W b a) (2 ^ m) with
    | true =>
      rw [c2] at g2
      refine xq_n 64 [] [] [.int (Int32.ofInt (-1))] h [true, false, true, false] 60 hq rfl ⟨g1, g2, rfl, rfl, trivial⟩ (fun _ => ?_)
      exact xq_ret rfl rfl rfl ⟨rfl, rfl⟩
    | false =>
      rw [c2] at g2
      refine xq_n 64 [] [] [.int (Int32.ofInt 2)] h [true, true, true, true] 60 hq rfl ⟨g1, g2, rfl, rfl, trivial⟩ (fun _ => ?_)
      exact xq_ret rfl rfl rfl ⟨rfl, rfl⟩
set_option maxRecDepth 100000 in
set_option maxHeartbeats 4000000 in
theorem sr9_q {f mem sc : Nat} {x y d : Int32} {h : xh_H} (hi : a_inv a_tb h) (hn : 72 ≤ h.1.length) (e9 : xg 0 h.2.1 0 9 = nI mem) (m1 : 1 ≤ mem) (m12 : mem ≤ 12) (e8 : xg 0 h.2.1 0 8 = nI sc) (sc8 : sc ≤ 8) (e10 : xg 0 h.2.1 0 10 = d) (si : SI h) (pi : PI h) : xq f xi_X9_stronger xmi_X9_stronger 0 [(0, .ref 0), (1, .int x), (2, .int y)] [] h (fun v h' => v = some (.int (srA (cvB (fun k => xg 0 h.2.1 51 k) (fun k => xg 0 h.2.1 44 k) mem sc d) mem x y)) ∧ PI h') := by
  have hq := a_rq_of hi.1 hn
  refine xq_n 2 [0, 1, 2] [(0, .ref 0), (1, .int x), (2, .int y)] [.int x, .ref 0] h [] 60 hq rfl trivial (fun _ => ?_)
  refine xq_run hq rfl rfl (mem9_q (z := nI mem) e9 hq) ?_
  rintro v h1 ⟨rfl, rfl⟩
  unfold srA
  cases c1 : isM x mem with
  | false =>
    unfold isM at c1
    rw [c1]
    refine xq_n 18 [] [] [.int (-2)] h [true] 60 hq rfl ⟨rfl, trivial⟩ (fun _ => ?_)
    exact xq_ret rfl rfl rfl ⟨rfl, pi⟩
  | true =>
    unfold isM at c1
    obtain ⟨a, rfl, al, ea⟩ := mb_n m12 c1
    rw [ea, c1]
    refine xq_n 10 [0, 1, 2] [(0, .ref 0), (1, .int (nI a)), (2, .int y)] [.int y, .ref 0] h [false] 60 hq rfl ⟨rfl, trivial⟩ (fun _ => ?_)
    refine xq_run hq rfl rfl (mem9_q (z := nI mem) e9 hq) ?_
    rintro v h1 ⟨rfl, rfl⟩
    cases c2 : isM y mem with
    | false =>
      unfold isM at c2
      rw [c2]
      refine xq_n 18 [] [] [.int (-2)] h [false] 60 hq rfl ⟨rfl, trivial⟩ (fun _ => ?_)
      exact xq_ret rfl rfl rfl ⟨rfl, pi⟩
    | true =>
      unfold isM at c2
      obtain ⟨b, rfl, bm, eb⟩ := mb_n m12 c2
      rw [eb, c2]
      refine xq_n 20 [1, 2] [(1, .int (nI a)), (2, .int (nI b))] [.ref 0] h [true] 60 hq rfl ⟨rfl, trivial⟩ (fun _ => ?_)
      refine xq_run hq rfl rfl (pt9_q hi hn e9 m1 m12 e8 sc8 e10 si pi) ?_
      rintro v h1 ⟨rfl, Y, PP, q, r, A, P⟩
      have hq1 := Yf_q hi hn Y
      refine xq_n 25 [] [] [.int (nI b), .int (nI a), .ref 14] h1 [] 60 hq1 rfl trivial (fun _ => ?_)
      refine xq_run hq1 rfl rfl (cmp_q m12 P al bm hq1) ?_
      rintro v h2 ⟨rfl, rfl⟩
      exact xq_ret rfl rfl rfl ⟨rfl, PP⟩
end XPT
end
section
section XPP
theorem xq_sw {f mid : Nat} {mi : xm_M} {pc : Nat} {lv : List (Nat × Value)} {st : List Value} {h : xh_H} {Q : Option Value → xh_H → Prop} {dflt lo hi : Int} {offs : Array Int} {len ra rb rK ri : Nat} {x : Int32} (hr : xC mid pc = some (.tableswitch dflt lo hi offs, len, ra, rb, rK, ri)) (K0 : (x.toInt < lo ∨ hi < x.toInt) → xq f mid mi ((pc : Int) + dflt).toNat lv st h Q) (K1 : ∀ (i : Nat) (off : Int), offs[i]? = some off → x.toInt = lo + i → xq f mid mi ((pc : Int) + off).toNat lv st h Q) : xq f mid mi pc lv (.int x :: st) h Q := by
  intro d lw w h' c s hs hx
  obtain ⟨g, eg, ⟨o', e2, e3⟩ | ⟨e2, d', mj, As, q, -, -, -, -, -, e, -⟩⟩ := xq_s hr rfl hx
  · have e1 : xe_1 mi.2.2.2.1 (.tableswitch dflt lo hi offs, len, ra, rb, rK, ri) pc lw (.int x :: st) h 0 0 = some o' := by
      unfold xe_2 at e2
      cases z : xe_1 mi.2.2.2.1 (.tableswitch dflt lo hi offs, len, ra, rb, rK, ri) pc lw (.int x :: st) h 0 0 with
      | some o => rw [z] at e2; exact e2
      | none => rw [z] at e2; cases e2
    have e1 : (cond (decide (x.toInt < lo) || decide (hi < x.toInt))
      (cond (decide (0 ≤ (pc : Int) + dflt)) (some (((pc : Int) + dflt).toNat, lw, st, h, 0, 0)) none)
      (match offs[(x.toInt - lo).toNat]? with
        | some off => cond (decide (0 ≤ (pc : Int) + off)) (some (((pc : Int) + off).toNat, lw, st, h, 0, 0)) none
        | none => none)) = some o' := e1
    cases hb : (decide (x.toInt < lo) || decide (hi < x.toInt)) with
    | true =>
      rw [hb] at e1
      obtain ⟨-, e1⟩ := xw_c e1
      cases e1
      rw [Bool.or_eq_true] at hb
      exact K0 (hb.imp of_decide_eq_true of_decide_eq_true) d lw w h' c s hs (xe_x_le (by omega) e3)
    | false =>
      rw [hb] at e1
      rw [Bool.or_eq_false_iff] at hb
      have b1 := of_decide_eq_false hb.1
      cases ho : offs[(x.toInt - lo).toNat]? with
      | none => rw [ho] at e1; cases e1
      | some off =>
        rw [ho] at e1
        obtain ⟨-, e1⟩ := xw_c e1
        cases e1
        exact K1 _ off ho (by omega) d lw w h' c s hs (xe_x_le (by omega) e3)
  · unfold xe_cl at e
    split at e <;> cases e
theorem xq_no {f mid : Nat} {mi : xm_M} {pc : Nat} {lv : List (Nat × Value)} {st : List Value} {h : xh_H} {Q : Option Value → xh_H → Prop} (hr : xC mid pc = none) : xq f mid mi pc lv st h Q := by
  intro d lw w h' c s hs hx
  cases f with
  | zero => cases hx
  | succ f =>
    unfold xe_x at hx
    rw [hr] at hx
    cases hx
/-- a call that leaves Powers -/
theorem pu_i {f : Nat} {C : aC} {mi : xm_M} {A : List Value} {h : xh_H} {lo hi : Int} {o : Option (aN × Int)} {ft ff : aF} (P : PI h) (i : a_inv a_tb h) (l : 72 ≤ h.1.length) (hC : a_spec a_tb C) (hM : xM C.1 = some mi) (ha : a_st (fun _ => 0) h.1.length C.2.2.1 A) (hp : C.2.2.2.2.2 = []) (hret : C.2.2.2.1 = [(some (0, lo, hi, o, ft, ff), [])]) (pm : pwM C.2.2.2.2.1 = true) (fm : fzM C.1 = true) (qm : qzM C.1 = true) : xq f C.1 mi 0 (lv_args 0 A) [] h (fun v h' => (∃ x, v = some (.int x)) ∧ a_inv a_tb h' ∧ 72 ≤ h'.1.length ∧ PI h') := by
  obtain ⟨v, h', r1, p1, p2, ⟨t, ht, p3⟩, p4⟩ := hC C.2.1 mi A h (fun _ => 0) (Nat.le_refl _) hM i l ha (by rw [hp]; exact a_fp0)
  rw [hret] at ht
  cases List.mem_singleton.mp ht
  obtain ⟨⟨w, rfl, x, rfl, -⟩, -⟩ := p3
  exact xq_of (d := C.2.1) ⟨_, hM⟩ ⟨_, h', r1, ⟨x, rfl⟩, p1, by rw [p2]; exact l, PI_t i l (Fs_z (a_rq_of i.1 l) (fz_run fm r1)) (qz_run qm r1) p4 pm P⟩
theorem pu_l {f : Nat} {C : aC} {mi : xm_M} {A : List Value} {h : xh_H} {lo hi : Int} {o : Option (aN × Int)} {ft ff : aF} (P : PI h) (i : a_inv a_tb h) (l : 72 ≤ h.1.length) (hC : a_spec a_tb C) (hM : xM C.1 = some mi) (ha : a_st (fun _ => 0) h.1.length C.2.2.1 A) (hp : C.2.2.2.2.2 = []) (hret : C.2.2.2.1 = [(some (1, lo, hi, o, ft, ff), [])]) (pm : pwM C.2.2.2.2.1 = true) (fm : fzM C.1 = true) (qm : qzM C.1 = true) : xq f C.1 mi 0 (lv_args 0 A) [] h (fun v h' => (∃ x, v = some (.long x)) ∧ a_inv a_tb h' ∧ 72 ≤ h'.1.length ∧ PI h') := by
  obtain ⟨v, h', r1, p1, p2, ⟨t, ht, p3⟩, p4⟩ := hC C.2.1 mi A h (fun _ => 0) (Nat.le_refl _) hM i l ha (by rw [hp]; exact a_fp0)
  rw [hret] at ht
  cases List.mem_singleton.mp ht
  obtain ⟨⟨w, rfl, x, rfl, -⟩, -⟩ := p3
  exact xq_of (d := C.2.1) ⟨_, hM⟩ ⟨_, h', r1, ⟨x, rfl⟩, p1, by rw [p2]; exact l, PI_t i l (Fs_z (a_rq_of i.1 l) (fz_run fm r1)) (qz_run qm r1) p4 pm P⟩
section
variable {mem sc : Nat} {d : Int32} {h : xh_H}
theorem pti_q {f : Nat} (hi : a_inv a_tb h) (hn : 72 ≤ h.1.length) (e9 : xg 0 h.2.1 0 9 = nI mem) (m1 : 1 ≤ mem) (m12 : mem ≤ 12) (e8 : xg 0 h.2.1 0 8 = nI sc) (sc8 : sc ≤ 8) (e10 : xg 0 h.2.1 0 10 = d) (si : SI h) (pi : PI h) : xq f xi_X9_powersToday xmi_X9_powersToday 0 [(0, .ref 0)] [] h (fun v h' => v = some (.ref 14) ∧ a_inv a_tb h' ∧ 72 ≤ h'.1.length ∧ PI h' ∧ xg 0 h'.2.1 14 7 = nI mem) :=
  xq_mono (xq_and (xq_of (d := 5) ⟨_, rfl⟩ (pt_run (d := 0) hi hn)) (pt9_q hi hn e9 m1 m12 e8 sc8 e10 si pi)) (fun v h' e => ⟨e.2.1, e.1.1.1, hk_n e.1.1 hn, e.2.2.2.1, e.1.2.2.trans e9⟩)
set_option maxRecDepth 100000 in
set_option maxHeartbeats 4000000 in
theorem ma9_p {f : Nat} {x : Int32} (hi : a_inv a_tb h) (hn : 72 ≤ h.1.length) (e9 : xg 0 h.2.1 0 9 = nI mem) (m1 : 1 ≤ mem) (m12 : mem ≤ 12) (e8 : xg 0 h.2.1 0 8 = nI sc) (sc8 : sc ≤ 8) (e10 : xg 0 h.2.1 0 10 = d) (si : SI h) (pi : PI h) : xq f xi_X9_many xmi_X9_many 0 [(0, .ref 0), (1, .int x)] [] h (fun v h' => PI h') := by
  have hq := a_rq_of hi.1 hn
  refine xq_n 1 [1] [(1, .int x)] [.ref 0] h [] 60 hq rfl trivial (fun _ => ?_)
  refine xq_run hq rfl rfl (pti_q hi hn e9 m1 m12 e8 sc8 e10 si pi) ?_
  rintro v h1 ⟨rfl, i1, l1, P1, -⟩
  have hq1 := a_rq_of i1.1 l1
  refine xq_n 6 [2] [(2, .ref 14)] [.int x] h1 [] 60 hq1 rfl trivial (fun _ => ?_)
  have bo : ∀ c, xg 0 h1.2.1 14 c = xg 0 h1.2.1 14 c := fun _ => rfl
  refine xq_sw rfl (fun _ => ?_) (fun i off ho _ => ?_)
  · show xq f _ _ 122 _ _ _ _
    refine xq_n 123 [] [] [.int (Int32.ofInt (-1))] h1 [] 60 hq1 rfl trivial (fun _ => ?_)
    exact xq_ret rfl rfl rfl P1
  · match i, ho with
    | 0, rfl =>
      show xq f _ _ 52 _ _ _ _
      refine xq_n 53 [] [] [.ref 14] h1 [] 60 hq1 rfl trivial (fun _ => ?_)
      refine xq_run hq1 rfl rfl (pu_i (C := aC_m_X2_countCarrying) (mi := xmi_X2_countCarrying) P1 i1 l1 as_m_X2_countCarrying rfl ⟨a_av (by decide) l1, trivial⟩ rfl rfl rfl (by decide +kernel) (by decide +kernel)) ?_
      rintro v h2 ⟨⟨y, rfl⟩, i2, l2, P2⟩
      exact xq_ret rfl rfl rfl P2
    | 1, rfl =>
      show xq f _ _ 57 _ _ _ _
      refine xq_n 61 [] [] [.int (xg 0 h1.2.1 14 9)] h1 [] 60 hq1 rfl trivial (fun _ => ?_)
      exact xq_ret rfl rfl rfl P1
    | 2, rfl =>
      show xq f _ _ 62 _ _ _ _
      refine xq_n 66 [] [] [.int (xg 0 h1.2.1 14 10)] h1 [] 60 hq1 rfl trivial (fun _ => ?_)
      exact xq_ret rfl rfl rfl P1
    | 3, rfl =>
      show xq f _ _ 67 _ _ _ _
      refine xq_n 71 [] [] [.int (xg 0 h1.2.1 14 11)] h1 [] 60 hq1 rfl trivial (fun _ => ?_)
      refine xq_run hq1 rfl rfl (bcn_q hq1) ?_
      rintro v h2 ⟨rfl, y, rfl⟩
      exact xq_ret rfl rfl rfl P1
    | 4, rfl =>
      show xq f _ _ 75 _ _ _ _
      refine xq_n 79 [] [] [.int (xg 0 h1.2.1 14 12)] h1 [] 60 hq1 rfl trivial (fun _ => ?_)
      refine xq_run hq1 rfl rfl (bcn_q hq1) ?_
      rintro v h2 ⟨rfl, y, rfl⟩
      exact xq_ret rfl rfl rfl P1
    | 5, rfl =>
      show xq f _ _ 83 _ _ _ _
      refine xq_n 84 [] [] [.ref 14] h1 [] 60 hq1 rfl trivial (fun _ => ?_)
      refine xq_run hq1 rfl rfl (pu_i (C := aC_m_X2_isProper) (mi := xmi_X2_isProper) P1 i1 l1 as_m_X2_isProper rfl ⟨a_av (by decide) l1, trivial⟩ rfl rfl rfl (by decide +kernel) (by decide +kernel)) ?_
      rintro v h2 ⟨⟨y, rfl⟩, i2, l2, P2⟩
      have hq2 := a_rq_of i2.1 l2
      cases c : xe_c .eq y 0 with
      | true =>
        refine xq_n 95 [] [] [.int (Int32.ofInt 0)] h2 [true] 60 hq2 rfl ⟨c, trivial⟩ (fun _ => ?_)
        exact xq_ret rfl rfl rfl P2
      | false =>
        refine xq_n 95 [] [] [.int (Int32.ofInt 1)] h2 [false] 60 hq2 rfl ⟨c, trivial⟩ (fun _ => ?_)
        exact xq_ret rfl rfl rfl P2
    | 6, rfl =>
      show xq f _ _ 96 _ _ _ _
      refine xq_n 97 [] [] [.ref 14] h1 [] 60 hq1 rfl trivial (fun _ => ?_)
      refine xq_run hq1 rfl rfl (pu_i (C := aC_m_X2_isStrong) (mi := xmi_X2_isStrong) P1 i1 l1 as_m_X2_isStrong rfl ⟨a_av (by decide) l1, trivial⟩ rfl rfl rfl (by decide +kernel) (by decide +kernel)) ?_
      rintro v h2 ⟨⟨y, rfl⟩, i2, l2, P2⟩
      have hq2 := a_rq_of i2.1 l2
      cases c : xe_c .eq y 0 with
      | true =>
        refine xq_n 108 [] [] [.int (Int32.ofInt 0)] h2 [true] 60 hq2 rfl ⟨c, trivial⟩ (fun _ => ?_)
        exact xq_ret rfl rfl rfl P2
      | false =>
        refine xq_n 108 [] [] [.int (Int32.ofInt 1)] h2 [false] 60 hq2 rfl ⟨c, trivial⟩ (fun _ => ?_)
        exact xq_ret rfl rfl rfl P2
    | 7, rfl =>
      show xq f _ _ 109 _ _ _ _
      refine xq_n 110 [] [] [.ref 14] h1 [] 60 hq1 rfl trivial (fun _ => ?_)
      refine xq_run hq1 rfl rfl (pu_i (C := aC_m_X2_isLined) (mi := xmi_X2_isLined) P1 i1 l1 as_m_X2_isLined rfl ⟨a_av (by decide) l1, trivial⟩ rfl rfl rfl (by decide +kernel) (by decide +kernel)) ?_
      rintro v h2 ⟨⟨y, rfl⟩, i2, l2, P2⟩
      have hq2 := a_rq_of i2.1 l2
      cases c : xe_c .eq y 0 with
      | true =>
        refine xq_n 121 [] [] [.int (Int32.ofInt 0)] h2 [true] 60 hq2 rfl ⟨c, trivial⟩ (fun _ => ?_)
        exact xq_ret rfl rfl rfl P2
      | false =>
        refine xq_n 121 [] [] [.int (Int32.ofInt 1)] h2 [false] 60 hq2 rfl ⟨c, trivial⟩ (fun _ => ?_)
        exact xq_ret rfl rfl rfl P2
    | n + 8, ho => cases ho
set_option maxRecDepth 100000 in
set_option maxHeartbeats 4000000 in
theorem sa9_p {f : Nat} {x y : Int32} (hi : a_inv a_tb h) (hn : 72 ≤ h.1.length) (e9 : xg 0 h.2.1 0 9 = nI mem) (m1 : 1 ≤ mem) (m12 : mem ≤ 12) (e8 : xg 0 h.2.1 0 8 = nI sc) (sc8 : sc ≤ 8) (e10 : xg 0 h.2.1 0 10 = d) (si : SI h) (pi : PI h) : xq f xi_X9_setAt xmi_X9_setAt 0 [(0, .ref 0), (1, .int x), (2, .int y)] [] h (fun v h' => PI h') := by
  have hq := a_rq_of hi.1 hn
  refine xq_n 1 [1, 2] [(1, .int x), (2, .int y)] [.ref 0] h [] 60 hq rfl trivial (fun _ => ?_)
  refine xq_run hq rfl rfl (pti_q hi hn e9 m1 m12 e8 sc8 e10 si pi) ?_
  rintro v h1 ⟨rfl, i1, l1, P1, -⟩
  have hq1 := a_rq_of i1.1 l1
  refine xq_n 6 [2, 3] [(2, .int y), (3, .ref 14)] [.int x] h1 [] 60 hq1 rfl trivial (fun _ => ?_)
  refine xq_sw rfl (fun _ => ?_) (fun i off ho _ => ?_)
  · show xq f _ _ 108 _ _ _ _
    refine xq_n 109 [] [] [.int (Int32.ofInt (-1))] h1 [] 60 hq1 rfl trivial (fun _ => ?_)
    exact xq_ret rfl rfl rfl P1
  · match i, ho with
    | 0, rfl =>
      show xq f _ _ 36 _ _ _ _
      cases c1 : xe_c .lt y 0 with
      | true =>
        refine xq_n 58 [] [] [.int (Int32.ofInt (-1))] h1 [true] 60 hq1 rfl ⟨c1, trivial⟩ (fun _ => ?_)
        exact xq_ret rfl rfl rfl P1
      | false =>
        cases c2 : xe_c .ge y (xg 0 h1.2.1 14 9) with
        | true =>
          refine xq_n 58 [] [] [.int (Int32.ofInt (-1))] h1 [false, true] 60 hq1 rfl ⟨c1, c2, trivial⟩ (fun _ => ?_)
          exact xq_ret rfl rfl rfl P1
        | false =>
          refine xq_n 58 [] [] [.int (xg 0 h1.2.1 15 y.toNatClampNeg)] h1 [false, false] 60 hq1 rfl ⟨c1, c2, trivial⟩ (fun _ => ?_)
          exact xq_ret rfl rfl rfl P1
    | 1, rfl =>
      show xq f _ _ 59 _ _ _ _
      cases c1 : xe_c .lt y 0 with
      | true =>
        refine xq_n 81 [] [] [.int (Int32.ofInt (-1))] h1 [true] 60 hq1 rfl ⟨c1, trivial⟩ (fun _ => ?_)
        exact xq_ret rfl rfl rfl P1
      | false =>
        cases c2 : xe_c .ge y (xg 0 h1.2.1 14 10) with
        | true =>
          refine xq_n 81 [] [] [.int (Int32.ofInt (-1))] h1 [false, true] 60 hq1 rfl ⟨c1, c2, trivial⟩ (fun _ => ?_)
          exact xq_ret rfl rfl rfl P1
        | false =>
          refine xq_n 81 [] [] [.int (xg 0 h1.2.1 16 y.toNatClampNeg)] h1 [false, false] 60 hq1 rfl ⟨c1, c2, trivial⟩ (fun _ => ?_)
          exact xq_ret rfl rfl rfl P1
    | 2, rfl =>
      show xq f _ _ 82 _ _ _ _
      cases c1 : xe_c .ne y 0 with
      | true =>
        refine xq_n 94 [] [] [.int (Int32.ofInt (-1))] h1 [true] 60 hq1 rfl ⟨c1, trivial⟩ (fun _ => ?_)
        exact xq_ret rfl rfl rfl P1
      | false =>
        refine xq_n 94 [] [] [.int (xg 0 h1.2.1 14 11)] h1 [false] 60 hq1 rfl ⟨c1, trivial⟩ (fun _ => ?_)
        exact xq_ret rfl rfl rfl P1
    | 3, rfl =>
      show xq f _ _ 95 _ _ _ _
      cases c1 : xe_c .ne y 0 with
      | true =>
        refine xq_n 107 [] [] [.int (Int32.ofInt (-1))] h1 [true] 60 hq1 rfl ⟨c1, trivial⟩ (fun _ => ?_)
        exact xq_ret rfl rfl rfl P1
      | false =>
        refine xq_n 107 [] [] [.int (xg 0 h1.2.1 14 12)] h1 [false] 60 hq1 rfl ⟨c1, trivial⟩ (fun _ => ?_)
        exact xq_ret rfl rfl rfl P1
    | n + 4, ho => cases ho
set_option maxRecDepth 100000 in
set_option maxHeartbeats 4000000 in
theorem ch9_p {f : Nat} {x : Int32} (hi : a_inv a_tb h) (hn : 72 ≤ h.1.length) (e9 : xg 0 h.2.1 0 9 = nI mem) (m1 : 1 ≤ mem) (m12 : mem ≤ 12) (e8 : xg 0 h.2.1 0 8 = nI sc) (sc8 : sc ≤ 8) (e10 : xg 0 h.2.1 0 10 = d) (si : SI h) (pi : PI h) : xq f xi_X9_chance xmi_X9_chance 0 [(0, .ref 0), (1, .int x)] [] h (fun v h' => PI h') := by
  have hq := a_rq_of hi.1 hn
  cases c1 : xe_c .lt x 0 with
  | true =>
    refine xq_n 24 [] [] [.long 18446744073709551615] h [true] 5 hq rfl ⟨c1, trivial⟩ (fun _ => ?_)
    exact xq_ret rfl rfl rfl pi
  | false =>
    cases c2 : xe_c .le x 10 with
    | false =>
      refine xq_n 24 [] [] [.long 18446744073709551615] h [false, false] 8 hq rfl ⟨c1, c2, trivial⟩ (fun _ => ?_)
      exact xq_ret rfl rfl rfl pi
    | true =>
      refine xq_n 17 [1] [(1, .int x)] [.ref 0] h [false, true] 7 hq rfl ⟨c1, c2, trivial⟩ (fun _ => ?_)
      refine xq_run hq rfl rfl (pti_q hi hn e9 m1 m12 e8 sc8 e10 si pi) ?_
      rintro v h1 ⟨rfl, i1, l1, P1, -⟩
      have hq1 := a_rq_of i1.1 l1
      obtain ⟨q, e, rq⟩ : a_e h1 14 6 (2, 11, 0) := ((i1.1 14 (0, 2) (hq1.2.1 14 (0, 2) rfl)).2 6 (by decide))
      obtain ⟨g1, r, g2, g3⟩ := law_sh i1.1 rq
      refine xq_n 21 [] [] [.int x, .ref 14] h1 [] 3 hq1 rfl trivial (fun _ => ?_)
      refine xq_run hq1 rfl rfl (cho_q e g1 g2 g3 hq1) ?_
      rintro v h2 ⟨g4, y, rfl⟩
      refine xq_ret rfl rfl rfl (PI_s i1 l1 (fun c k z _ => g4.2.2.2 c k (nbeq_f (fun w => ?_))) (fun c k _ => by rw [g4.2.1]) (by rw [g4.2.1]) (fun c k _ => fx_i g4 rfl) P1)
      rw [w, hq1.2.1 20 _ rfl] at z
      cases z
set_option maxRecDepth 100000 in
set_option maxHeartbeats 4000000 in
theorem we9_p {f : Nat} (hi : a_inv a_tb h) (hn : 72 ≤ h.1.length) (e9 : xg 0 h.2.1 0 9 = nI mem) (m1 : 1 ≤ mem) (m12 : mem ≤ 12) (e8 : xg 0 h.2.1 0 8 = nI sc) (sc8 : sc ≤ 8) (e10 : xg 0 h.2.1 0 10 = d) (si : SI h) (pi : PI h) : xq f xi_X9_weigh xmi_X9_weigh 0 [(0, .ref 0)] [] h (fun v h' => PI h') := by
  have hq := a_rq_of hi.1 hn
  refine xq_n 1 [0] [(0, .ref 0)] [.ref 0] h [] 60 hq rfl trivial (fun _ => ?_)
  refine xq_run hq rfl rfl (pti_q hi hn e9 m1 m12 e8 sc8 e10 si pi) ?_
  rintro v h1 ⟨rfl, i1, l1, P1, -⟩
  have hq1 := a_rq_of i1.1 l1
  refine xq_n 9 [] [] [.ref 21] h1 [] 60 hq1 rfl trivial (fun _ => ?_)
  refine xq_run hq1 rfl rfl (pu_i (C := aC_m_X5_look) (mi := xmi_X5_look) P1 i1 l1 as_m_X5_look rfl ⟨a_av (by decide) l1, trivial⟩ rfl rfl rfl (by decide +kernel) (by decide +kernel)) ?_
  rintro v h2 ⟨⟨y, rfl⟩, i2, l2, P2⟩
  exact xq_ret rfl rfl rfl P2
set_option maxRecDepth 100000 in
set_option maxHeartbeats 4000000 in
/-- X2.upperShare leaves all -/
theorem us_p {f k m : Nat} {w : Int32} (P : PI h) (i : a_inv a_tb h) (l : 72 ≤ h.1.length) (m12 : m ≤ 12) (hk' : k < m) (e7 : xg 0 h.2.1 14 7 = nI m) : xq f xi_X2_upperShare xmi_X2_upperShare 0 [(0, .ref 14), (1, .int (nI k)), (2, .int w)] [] h (fun v h' => (∃ x, v = some (.long x)) ∧ a_inv a_tb h' ∧ 72 ≤ h'.1.length ∧ PI h') :=
  xq_mono (xq_and (xq_of (d := 3) ⟨_, rfl⟩ (us_run (d := 0) (k := k) (m := m) (w := w) i l m12 hk' e7)) (xq_and (xq_fz (by decide +kernel)) (xq_qz (by decide +kernel)))) (fun v h' e => ⟨e.1.2, e.1.1.1, hk_n e.1.1 l, PI_t i l (Fs_z (a_rq_of i.1 l) e.2.1) e.2.2 e.1.1.2.2 rfl P⟩)
set_option maxRecDepth 100000 in
set_option maxHeartbeats 4000000 in
theorem sh9_p {f k : Nat} {x w z : Int32} (hi : a_inv a_tb h) (hn : 72 ≤ h.1.length) (e9 : xg 0 h.2.1 0 9 = nI mem) (m1 : 1 ≤ mem) (m12 : mem ≤ 12) (e8 : xg 0 h.2.1 0 8 = nI sc) (sc8 : sc ≤ 8) (e10 : xg 0 h.2.1 0 10 = d) (si : SI h) (pi : PI h) : xq f xi_X9_share xmi_X9_share 0 [(0, .ref 0), (1, .int x), (2, .int w), (3, .int z)] [] h (fun v h' => PI h') := by
  have hq := a_rq_of hi.1 hn
  refine xq_n 2 [0, 1, 2, 3] [(0, .ref 0), (1, .int x), (2, .int w), (3, .int z)] [.int x, .ref 0] h [] 60 hq rfl trivial (fun _ => ?_)
  refine xq_run hq rfl rfl (mem9_q (z := nI mem) e9 hq) ?_
  rintro v h1 ⟨rfl, rfl⟩
  have th : ∀ f, xq f xi_X9_share xmi_X9_share 26 [] [] h (fun v h' => PI h') := fun f => xq_no rfl
  cases c1 : (!xe_c .lt x 0 && !xe_c .ge x (nI mem)) with
  | false =>
    refine xq_n 26 [] [] [] h [true] 60 hq rfl ⟨rfl, trivial⟩ (fun _ => ?_)
    exact th f
  | true =>
    obtain ⟨a, rfl, al, ea⟩ := mb_n m12 c1
    cases c2 : xe_c .lt w 0 with
    | true =>
      refine xq_n 26 [] [] [] h [false, true] 60 hq rfl ⟨rfl, c2, trivial⟩ (fun _ => ?_)
      exact th f
    | false =>
      cases c3 : xe_c .gt w (Int32.ofInt 2) with
      | true =>
        refine xq_n 26 [] [] [] h [false, false, true] 60 hq rfl ⟨rfl, c2, c3, trivial⟩ (fun _ => ?_)
        exact th f
      | false =>
        cases c4 : xe_c .lt z 0 with
        | true =>
          refine xq_n 26 [] [] [] h [false, false, false, true] 60 hq rfl ⟨rfl, c2, c3, c4, trivial⟩ (fun _ => ?_)
          exact th f
        | false =>
          cases c5 : xe_c .le z (Int32.ofInt 1) with
          | false =>
            refine xq_n 26 [] [] [] h [false, false, false, false, false] 60 hq rfl ⟨rfl, c2, c3, c4, c5, trivial⟩ (fun _ => ?_)
            exact th f
          | true =>
            have w1 : (0 : Int) ≤ w.toInt := a_ce (a_neg_ok c2)
            have w2 : w.toInt ≤ (2 : Int) := a_ce (a_neg_ok c3)
            refine xq_n 35 [1, 2, 3] [(1, .int (nI a)), (2, .int w), (3, .int z)] [.ref 0] h [false, false, false, false, true] 60 hq rfl ⟨rfl, c2, c3, c4, c5, trivial⟩ (fun _ => ?_)
            refine xq_run hq rfl rfl (pti_q hi hn e9 m1 m12 e8 sc8 e10 si pi) ?_
            rintro v h1 ⟨rfl, i1, l1, P1, e7⟩
            have hq1 := a_rq_of i1.1 l1
            refine xq_n 44 [2, 3, 4] [(2, .int w), (3, .int z), (4, .ref 14)] [.int w, .int (nI a), .ref 14] h1 [] 60 hq1 rfl trivial (fun _ => ?_)
            refine xq_run hq1 rfl rfl (us_p P1 i1 l1 m12 al e7) ?_
            rintro v h2 ⟨⟨u, rfl⟩, i2, l2, P2⟩
            have hq2 := a_rq_of i2.1 l2
            refine xq_n 52 [3, 5] [(3, .int z), (5, .long u)] [.int w, .ref 14] h2 [] 60 hq2 rfl trivial (fun _ => ?_)
            refine xq_run hq2 rfl rfl (pu_l (C := aC_m_X2_lowerShare) (mi := xmi_X2_lowerShare) P2 i2 l2 as_m_X2_lowerShare rfl ⟨a_av (by decide) l2, a_ai w1 w2, trivial⟩ rfl rfl rfl (by decide +kernel) (by decide +kernel)) ?_
            rintro v h3 ⟨⟨g, rfl⟩, i3, l3, P3⟩
            have hq3 := a_rq_of i3.1 l3
            refine xq_n 61 [3, 5, 7] [(3, .int z), (5, .long u), (7, .long g)] [.long g, .long u] h3 [] 60 hq3 rfl trivial (fun _ => ?_)
            refine xq_run hq3 rfl rfl (pu_l (C := aC_gcd) (mi := xmi_X9_commonDivisor) P3 i3 l3 as_gcd rfl ⟨a_al, a_al, trivial⟩ rfl rfl rfl (by decide +kernel) (by decide +kernel)) ?_
            rintro v h4 ⟨⟨gg, rfl⟩, i4, l4, P4⟩
            have hq4 := a_rq_of i4.1 l4
            refine xq_n 70 [3, 5, 7, 9] [(3, .int z), (5, .long u), (7, .long g), (9, .long gg)] [.int (lg_cmp u 0)] h4 [] 60 hq4 rfl trivial (fun _ => ?_)
            have sm : ∀ f, xq f xi_X9_share xmi_X9_share 80 [(3, .int z)] [] h4 (fun v h' => PI h') := fun f => by
              cases c6 : xe_c .ne z 0 with
              | true =>
                refine xq_n 89 [] [] [.long 1] h4 [true] 60 hq4 rfl ⟨c6, trivial⟩ (fun _ => ?_)
                exact xq_ret rfl rfl rfl P4
              | false =>
                refine xq_n 89 [] [] [.long 0] h4 [false] 60 hq4 rfl ⟨c6, trivial⟩ (fun _ => ?_)
                exact xq_ret rfl rfl rfl P4
            cases c6 : xe_c .eq (lg_cmp u 0) 0 with
            | true =>
              refine xq_n 80 [3] [(3, .int z)] [] h4 [true] 60 hq4 rfl ⟨c6, trivial⟩ (fun _ => ?_)
              exact sm f
            | false =>
              cases c7 : xe_c .gt (lg_cmp gg 0) 0 with
              | false =>
                refine xq_n 80 [3] [(3, .int z)] [] h4 [false, false] 60 hq4 rfl ⟨c6, c7, trivial⟩ (fun _ => ?_)
                exact sm f
              | true =>
                cases c8 : xe_c .ne z 0 with
                | true =>
                  refine xq_n 107 [] [] [.long (g / gg)] h4 [false, true, true] 60 hq4 rfl ⟨c6, c7, c8, trivial⟩ (fun _ => ?_)
                  exact xq_ret rfl rfl rfl P4
                | false =>
                  refine xq_n 107 [] [] [.long (u / gg)] h4 [false, true, false] 60 hq4 rfl ⟨c6, c7, c8, trivial⟩ (fun _ => ?_)
                  exact xq_ret rfl rfl rfl P4
end
end XPP
end
section
section XOD
/-- more members never carry less -/
def Wm (W : Nat → Bool) (m : Nat) : Prop := ∀ s t, s < 2 ^ m → t < 2 ^ m → s &&& t = s → W s = true → W t = true
theorem sub_tb {s t i : Nat} (h : s &&& t = s) (hi : s.testBit i = true) : t.testBit i = true := by
  have e := congrArg (fun n => Nat.testBit n i) h
  simp only [Nat.testBit_and, hi, Bool.true_and] at e
  exact e
theorem tb_sub {s t : Nat} (h : ∀ i, s.testBit i = true → t.testBit i = true) : s &&& t = s := Nat.eq_of_testBit_eq (fun i => by
  rw [Nat.testBit_and]
  cases c : s.testBit i with
  | false => rfl
  | true => rw [h i c]; rfl)
theorem dz_m {W : Nat → Bool} {m : Nat} {hd : Bool} (M : Wm W m) : Wm (dz W m hd) m := by
  intro s t hs ht h
  cases hd with
  | false => exact M s t hs ht h
  | true =>
    intro z
    show (!W (co m t)) = true
    have z : (!W (co m s)) = true := z
    cases c : W (co m t) with
    | false => rfl
    | true =>
      have := M (co m t) (co m s) co_lt co_lt (tb_sub (fun i hi => by
        rw [co_tb ht, Bool.and_eq_true, Bool.not_eq_true'] at hi
        rw [co_tb hs, hi.1, Bool.true_and]
        cases c2 : s.testBit i with
        | false => rfl
        | true => exact absurd ((sub_tb h c2).symm.trans hi.2) (by decide))) c
      rw [this] at z
      exact z
theorem aln_g {P : Nat → Bool} : ∀ {n : Nat}, aln P n = true → ∀ k, k < n → P k = true := by
  intro n
  induction n with
  | zero => intro _ k hk'; omega
  | succ n ih =>
    intro h k hk'
    have h : (aln P n && P n) = true := h
    rw [Bool.and_eq_true] at h
    by_cases z : k = n
    · rw [z]; exact h.2
    · exact ih h.1 k (by omega)
theorem aln_i {P : Nat → Bool} : ∀ {n : Nat}, (∀ k, k < n → P k = true) → aln P n = true := by
  intro n
  induction n with
  | zero => intro _; rfl
  | succ n ih => intro h; exact aln_s (ih (fun k hk' => h k (by omega))) (h n (by omega))
theorem tb_lt {s m i : Nat} (hs : s < 2 ^ m) (h : s.testBit i = true) : i < m := by
  by_cases z : i < m
  · exact z
  · rw [Nat.testBit_lt_two_pow (Nat.lt_of_lt_of_le hs (Nat.pow_le_pow_right (by decide) (by omega)))] at h
    cases h
/-- of two least ones none is inside the other -/
theorem mi_a {W : Nat → Bool} {m : Nat} {hd : Bool} (M : Wm W m) {a b : Nat} (ha : a < 2 ^ m) (hb : b < 2 ^ m) (pa : mi W m hd a = true) (pb : mi W m hd b = true) (h : a &&& b = a) : a = b := by
  unfold mi at pa pb
  rw [Bool.and_eq_true] at pa pb
  refine Nat.eq_of_testBit_eq (fun i => ?_)
  cases c : a.testBit i with
  | true => exact (sub_tb h c).symm
  | false =>
    cases c2 : b.testBit i with
    | false => rfl
    | true =>
      have g := aln_g pb.2 i (tb_lt hb c2)
      have : dz W m hd (rmb b i) = true := dz_m M a (rmb b i) ha (rmb_lt hb) (tb_sub (fun j hj => by
        rw [rmb_tb, sub_tb h hj, Bool.true_and]
        by_cases z : i = j
        · rw [← z, c] at hj; cases hj
        · rw [decide_eq_false z]; rfl)) pa.1
      rw [c2, this] at g
      exact absurd g (by decide)
theorem cnt_fl {P : Nat → Bool} : ∀ n, cnt P n = ((List.range n).filter P).length := by
  intro n
  induction n with
  | zero => rfl
  | succ n ih =>
    rw [List.range_succ, List.filter_append, List.length_append, ← ih]
    cases c : P n with
    | true => rw [cnt_t c]; simp [c]
    | false => rw [cnt_f c]; simp [c]
theorem mi_924 {W : Nat → Bool} {m : Nat} {hd : Bool} (m12 : m ≤ 12) (M : Wm W m) : cnt (mi W m hd) (2 ^ m) ≤ 924 := by
  have p12 : 2 ^ m ≤ 4096 := show 2 ^ m ≤ 2 ^ 12 from Nat.pow_le_pow_right (by decide) m12
  have e : cnt (mi W m hd) (2 ^ m) = cnt (fun s => decide (s < 2 ^ m) && mi W m hd s) (2 ^ m) := cnt_c _ (fun k hk' => by rw [decide_eq_true hk', Bool.true_and])
  rw [e]
  refine Nat.le_trans (cnt_m p12) ?_
  rw [cnt_fl]
  refine sperner (fun a b ha hb h => ?_)
  rw [Bool.and_eq_true] at ha hb
  exact mi_a M (of_decide_eq_true ha.1) (of_decide_eq_true hb.1) ha.2 hb.2 h
theorem lcn_e {W : Nat → Bool} {m : Nat} {hd : Bool} (m12 : m ≤ 12) (M : Wm W m) : lcn (mi W m hd) (2 ^ m) = cnt (mi W m hd) (2 ^ m) := Nat.min_eq_left (mi_924 m12 M)
/-- all in the order of size, then of number -/
def qp (P : Nat → Bool) (N p : Nat) : Bool := P (p % N) && decide (sz (p % N) = p / N)
theorem cnt_ad {P : Nat → Bool} {a : Nat} : ∀ n, cnt P (a + n) = cnt P a + cnt (fun t => P (a + t)) n := by
  intro n
  induction n with
  | zero => rfl
  | succ n ih =>
    show (if P (a + n) = true then cnt P (a + n) + 1 else cnt P (a + n)) = cnt P a + (if P (a + n) = true then cnt (fun t => P (a + t)) n + 1 else cnt (fun t => P (a + t)) n)
    rw [ih]
    split <;> omega
theorem qp_k {P : Nat → Bool} {N k t : Nat} (ht : t < N) : qp P N (N * k + t) = qk P k t := by
  unfold qp qk
  rw [Nat.mul_add_mod, Nat.mod_eq_of_lt ht, Nat.mul_add_div (by omega), Nat.div_eq_of_lt ht, Nat.add_zero]
theorem cq_k {P : Nat → Bool} {N : Nat} : ∀ k, cnt (qp P N) (N * k) = cum P N k := by
  intro k
  induction k with
  | zero => rfl
  | succ k ih =>
    rw [Nat.mul_succ, cnt_ad, ih]
    show _ = cum P N k + cnt (qk P k) N
    rw [cnt_c N (fun t ht => qp_k ht)]
theorem cq_t {P : Nat → Bool} {N k t : Nat} (ht : t ≤ N) : cnt (qp P N) (N * k + t) = cum P N k + cnt (qk P k) t := by
  rw [cnt_ad, cq_k, cnt_c t (fun j hj => qp_k (by omega))]
theorem rk_q {P : Nat → Bool} {N t : Nat} (ht : t < N) : rk P N t = cnt (qp P N) (N * sz t + t) := (cq_t (Nat.le_of_lt ht)).symm
theorem cum_n {P : Nat → Bool} {n : Nat} : ∀ j, cum P (n + 1) j = cum P n j + (if P n = true ∧ sz n < j then 1 else 0) := by
  intro j
  induction j with
  | zero => rw [if_neg (by omega)]; rfl
  | succ j ih =>
    show cum P (n + 1) j + cnt (qk P j) (n + 1) = cum P n j + cnt (qk P j) n + _
    rw [ih]
    cases c : P n with
    | false =>
      rw [cnt_f (show qk P j n = false by unfold qk; rw [c]; rfl), if_neg (fun z => absurd z.1 (by decide)), if_neg (fun z => absurd z.1 (by decide))]
      omega
    | true =>
      by_cases z : sz n = j
      · rw [cnt_t (show qk P j n = true by unfold qk; rw [c, decide_eq_true z]; rfl), if_neg (by omega), if_pos ⟨rfl, by omega⟩]
        omega
      · rw [cnt_f (show qk P j n = false by unfold qk; rw [c, decide_eq_false z]; rfl)]
        by_cases y : sz n < j
        · rw [if_pos ⟨rfl, y⟩, if_pos ⟨rfl, by omega⟩]; omega
        · rw [if_neg (by omega), if_neg (by omega)]; omega
theorem cum_13 {P : Nat → Bool} : ∀ n, cum P n 13 = cnt P n := by
  intro n
  induction n with
  | zero => rfl
  | succ n ih =>
    rw [cum_n, ih]
    have := sz_le (s := n)
    cases c : P n with
    | true => rw [cnt_t c, if_pos ⟨rfl, by omega⟩]
    | false => rw [cnt_f c, if_neg (fun y => absurd y.1 (by decide))]; rfl
theorem cnt_sur {P : Nat → Bool} {j : Nat} : ∀ n, j < cnt P n → ∃ p, p < n ∧ P p = true ∧ cnt P p = j := by
  intro n
  induction n with
  | zero => intro h; exact absurd h (Nat.not_lt_zero j)
  | succ n ih =>
    intro h
    cases c : P n with
    | false =>
      rw [cnt_f c] at h
      obtain ⟨p, p1, p2⟩ := ih h
      exact ⟨p, by omega, p2⟩
    | true =>
      rw [cnt_t c] at h
      by_cases z : j = cnt P n
      · exact ⟨n, by omega, c, z.symm⟩
      · obtain ⟨p, p1, p2⟩ := ih (by omega)
        exact ⟨p, by omega, p2⟩
/-- every place is some set's -/
theorem rk_sur {P : Nat → Bool} {N j : Nat} (N0 : 0 < N) (h : j < cnt P N) : ∃ t, t < N ∧ P t = true ∧ rk P N t = j := by
  rw [← cum_13, ← cq_k] at h
  obtain ⟨p, p1, p2, p3⟩ := cnt_sur _ h
  unfold qp at p2
  rw [Bool.and_eq_true] at p2
  have e := of_decide_eq_true p2.2
  refine ⟨p % N, Nat.mod_lt _ N0, p2.1, ?_⟩
  rw [rk_q (Nat.mod_lt _ N0), e, Nat.div_add_mod]
  exact p3
theorem rk_tot {P : Nat → Bool} {N t : Nat} (h : P t = true) (ht : t < N) : rk P N t < cnt P N := by
  rw [← cum_13]
  have := cum_m (P := P) (N := N) (show sz t + 1 ≤ 13 by have := sz_le (s := t); omega)
  have := rk_lt h ht
  omega
/-- a row holds just those sets -/
theorem rw_all {W : Nat → Bool} {m c : Nat} {hd : Bool} {h : xh_H} (m12 : m ≤ 12) (M : Wm W m) (R : rwQ (mi W m hd) (2 ^ m) c h) : (∀ t, t < 2 ^ m → mi W m hd t = true → ∃ j, j < cnt (mi W m hd) (2 ^ m) ∧ xg 0 h.2.1 c j = nI t) ∧ ∀ j, j < cnt (mi W m hd) (2 ^ m) → ∃ t, t < 2 ^ m ∧ mi W m hd t = true ∧ rk (mi W m hd) (2 ^ m) t = j ∧ xg 0 h.2.1 c j = nI t := by
  have b := mi_924 (hd := hd) m12 M
  refine ⟨fun t ht p => ?_, fun j hj => ?_⟩
  · have l := rk_tot p ht
    exact ⟨_, l, R t ht p (by omega)⟩
  · obtain ⟨t, t1, t2, t3⟩ := rk_sur (Nat.two_pow_pos m) hj
    exact ⟨t, t1, t2, t3, by rw [← t3]; exact R t t1 t2 (by rw [t3]; omega)⟩
/-- in all of them -/
def inA (P : Nat → Bool) (N a : Nat) : Bool := aln (fun s => !P s || s.testBit a) N
/-- in none of them -/
def inN (P : Nat → Bool) (N a : Nat) : Bool := aln (fun s => !P s || !s.testBit a) N
theorem msk_f {n : Nat} : msk (fun _ => true) n = 2 ^ n - 1 := by
  refine Nat.eq_of_testBit_eq (fun i => ?_)
  rw [msk_tb, Nat.testBit_two_pow_sub_one, Bool.and_true]
theorem msk_e {f : Nat → Bool} {n x : Nat} (hx : ∀ i, x.testBit i = (decide (i < n) && f i)) : x = msk f n := Nat.eq_of_testBit_eq (fun i => by rw [hx, msk_tb])
theorem nf_m {R : Nat → Int32} {T : Nat → Nat} {m : Nat} : ∀ L, (∀ j, j < L → R j = nI (T j)) → nf R (nI (2 ^ m - 1)) L = nI (msk (fun a => aln (fun j => (T j).testBit a) L) m) := by
  intro L
  induction L with
  | zero =>
    intro _
    show nI (2 ^ m - 1) = _
    rw [← msk_f]
    rfl
  | succ L ih =>
    intro h
    show nf R _ L &&& R L = _
    rw [ih (fun j hj => h j (by omega)), h L (by omega), nI_and]
    congr 1
    refine msk_e (fun i => ?_)
    rw [Nat.testBit_and, msk_tb]
    show _ = (decide (i < m) && (aln (fun j => (T j).testBit i) L && (T L).testBit i))
    rw [Bool.and_assoc]
theorem idf_m {R : Nat → Int32} {T : Nat → Nat} {m : Nat} : ∀ L, (∀ j, j < L → R j = nI (T j)) → idf R (nI (2 ^ m - 1)) L = nI (msk (fun a => aln (fun j => !(T j).testBit a) L) m) := by
  intro L
  induction L with
  | zero =>
    intro _
    show nI (2 ^ m - 1) = _
    rw [← msk_f]
    rfl
  | succ L ih =>
    intro h
    show idf R _ L &&& (R L ^^^ Int32.ofInt (-1)) = _
    rw [ih (fun j hj => h j (by omega)), h L (by omega)]
    refine nI_andn (fun i _ => ?_)
    rw [msk_tb, msk_tb]
    show _ = (decide (i < m) && (aln (fun j => !(T j).testBit i) L && !(T L).testBit i))
    rw [Bool.and_assoc]
/-- who is needed, who is idle -/
def ndN (P : Nat → Bool) (N m : Nat) : Nat := if cnt P N = 0 then 0 else msk (inA P N) m
def idN (P : Nat → Bool) (N m : Nat) : Nat := msk (inN P N) m
theorem nd_idx {P : Nat → Bool} {N : Nat} (f : Nat → Bool) {T : Nat → Nat} {L : Nat} (h1 : ∀ t, t < N → P t = true → ∃ j, j < L ∧ T j = t) (h2 : ∀ j, j < L → T j < N ∧ P (T j) = true) : aln (fun j => f (T j)) L = aln (fun s => !P s || f s) N := by
  refine Bool.eq_iff_iff.mpr ⟨fun h => aln_i (fun s hs => ?_), fun h => aln_i (fun j hj => ?_)⟩
  · cases c : P s with
    | false => rfl
    | true =>
      obtain ⟨j, j1, j2⟩ := h1 s hs c
      have := aln_g h j j1
      rw [j2] at this
      rw [this]; rfl
  · obtain ⟨a, b⟩ := h2 j hj
    have := aln_g h _ a
    rw [b] at this
    exact this
theorem nd_e {W : Nat → Bool} {m : Nat} {h : xh_H} (m12 : m ≤ 12) (M : Wm W m) (P : PD W m h) : xg 0 h.2.1 14 11 = nI (ndN (mi W m false) (2 ^ m) m) ∧ xg 0 h.2.1 14 12 = nI (idN (mi W m false) (2 ^ m) m) := by
  obtain ⟨-, -, ⟨p3, p4⟩, -, p7, p8⟩ := P
  obtain ⟨r1, r2⟩ := rw_all m12 M p4
  rw [lcn_e m12 M] at p7 p8
  have T : ∃ T : Nat → Nat, ∀ j, j < cnt (mi W m false) (2 ^ m) → T j < 2 ^ m ∧ mi W m false (T j) = true ∧ xg 0 h.2.1 15 j = nI (T j) := by
    refine ⟨fun j => (xg 0 h.2.1 15 j).toNatClampNeg, fun j hj => ?_⟩
    obtain ⟨t, t1, t2, -, t3⟩ := r2 j hj
    have p12 : 2 ^ m ≤ 4096 := show 2 ^ m ≤ 2 ^ 12 from Nat.pow_le_pow_right (by decide) m12
    show (xg 0 h.2.1 15 j).toNatClampNeg < _ ∧ mi W m false (xg 0 h.2.1 15 j).toNatClampNeg = true ∧ _ = nI (xg 0 h.2.1 15 j).toNatClampNeg
    rw [t3, nI_clamp (by omega)]
    exact ⟨t1, t2, rfl⟩
  obtain ⟨T, hT⟩ := T
  have p12 : 2 ^ m ≤ 4096 := show 2 ^ m ≤ 2 ^ 12 from Nat.pow_le_pow_right (by decide) m12
  have h1 : ∀ t, t < 2 ^ m → mi W m false t = true → ∃ j, j < cnt (mi W m false) (2 ^ m) ∧ T j = t := fun t ht p => by
    obtain ⟨j, j1, j2⟩ := r1 t ht p
    obtain ⟨a, -, b⟩ := hT j j1
    rw [j2] at b
    exact ⟨j, j1, ((nI_eq (by omega) (by omega)).mp b).symm⟩
  have h2 : ∀ j, j < cnt (mi W m false) (2 ^ m) → T j < 2 ^ m ∧ mi W m false (T j) = true := fun j hj => ⟨(hT j hj).1, (hT j hj).2.1⟩
  have c9 := cnt_le (P := mi W m false) (2 ^ m)
  constructor
  · rw [p7]
    unfold ndN
    by_cases z : cnt (mi W m false) (2 ^ m) = 0
    · rw [if_pos z, z]; rfl
    · rw [if_neg z, show xe_c .le (nI (cnt (mi W m false) (2 ^ m))) 0 = false from xle_f (by rw [nI_toInt (by omega)]; show (0 : Int) < _; omega)]
      show nf _ (nI (2 ^ m - 1)) _ = _
      rw [nf_m (T := T) _ (fun j hj => (hT j hj).2.2)]
      congr 1
      exact msk_c m (fun a _ => nd_idx (fun s => s.testBit a) h1 h2)
  · rw [p8, idf_m (T := T) _ (fun j hj => (hT j hj).2.2)]
    unfold idN
    congr 1
    exact msk_c m (fun a _ => nd_idx (fun s => !s.testBit a) h1 h2)
/-- today's statute never carries less with more -/
theorem cv_m {h : xh_H} {mem sc : Nat} {d : Int32} (hi : a_inv a_tb h) (m12 : mem ≤ 12) (e33 : xg 0 h.2.1 39 33 = nI sc) (sc8 : sc ≤ 8) (hb : ∀ k s, k < sc → s < 2 ^ mem → ∃ b : Bool, xg 0 h.2.1 44 (4096 * k + s) = bl b) : Wm (cvB (fun k => xg 0 h.2.1 51 k) (fun k => xg 0 h.2.1 44 k) mem sc d) mem := by
  have p12 : 2 ^ mem ≤ 4096 := show 2 ^ mem ≤ 2 ^ 12 from Nat.pow_le_pow_right (by decide) m12
  intro s t hs ht hst
  unfold cvB
  cases o : iF (fun k => xg 0 h.2.1 51 k) (fun _ => true) d sc with
  | none =>
    intro z
    have z := of_decide_eq_true (show decide (s = 2 ^ mem - 1) = true from z)
    show decide (t = 2 ^ mem - 1) = true
    refine decide_eq_true (Nat.eq_of_testBit_eq (fun i => ?_))
    cases c : t.testBit i with
    | true => rw [Nat.testBit_two_pow_sub_one, decide_eq_true (tb_lt ht c)]
    | false =>
      cases c2 : (2 ^ mem - 1).testBit i with
      | false => rfl
      | true => rw [← z] at c2; rw [sub_tb hst c2] at c; exact absurd c (by decide)
  | some k =>
    have kl := iF_lt o
    intro z
    have z := of_decide_eq_true (show decide (xg 0 h.2.1 44 (4096 * k + s) = 1) = true from z)
    show decide (xg 0 h.2.1 44 (4096 * k + t) = 1) = true
    have J := hi.2.2.1 k (by rw [e33, nI_toInt (by omega)]; omega) s t (by omega) (by omega) hst
    dsimp only at J
    rw [z] at J
    obtain ⟨b, e⟩ := hb k t kl ht
    rw [e] at J ⊢
    cases b with
    | true => rfl
    | false => exact absurd J (by decide)
end XOD
end
section
section XMA
section
variable {W : Nat → Bool} {m q r : Nat} {h : xh_H}
set_option maxRecDepth 100000 in
set_option maxHeartbeats 4000000 in
/-- Powers.countCarrying -/
theorem cca_l (A : LA W m q r h) (m12 : m ≤ 12) (hq : a_rq a_tb h) : ∀ (n f s : Nat), s + n = 2 ^ m → xq f xi_X2_countCarrying xmi_X2_countCarrying 4 [(0, .ref 14), (1, .int (nI (cnt W s))), (2, .int (nI s))] [] h (fun v h' => h = h' ∧ v = some (.int (nI (cnt W (2 ^ m))))) := by
  intro n
  induction n with
  | zero =>
    intro f s sn
    have e : s = 2 ^ m := by omega
    subst e
    refine xq_n 33 [] [] [.int (nI (cnt W (2 ^ m)))] h [true] 60 hq rfl ⟨gtt A m12, trivial⟩ (fun _ => ?_)
    exact xq_ret rfl rfl rfl ⟨rfl, rfl⟩
  | succ n ih =>
    intro f s sn
    have r := ih f (s + 1) (by omega)
    refine xq_n 17 [0, 1, 2] [(0, .ref 14), (1, .int (nI (cnt W s))), (2, .int (nI s))] [.int (nI s), va_rf (xg none h.2.2.2 14 6)] h [false] 60 hq rfl ⟨gtf A m12 (by omega), trivial⟩ (fun _ => ?_)
    rw [A.1]
    refine xq_cr (As := [.ref q, .int (nI (s))]) (mj := xmi_X7_holds) (q := []) rfl rfl (fun _ _ => rfl) (xa_cs_ok (d := 0) (pc := 0) (lv := []) (nL := 0) A.2.1 rfl).1 (fun f => hl_q A m12 (by omega) hq) ?_
    rintro v h1 ⟨rfl, rfl⟩
    cases c : W s with
    | true =>
      rw [cnt_t c] at r
      refine xq_n 4 [0, 1, 2] [(0, .ref 14), (1, .int (nI (cnt W s) + Int32.ofInt 1)), (2, .int (nI s + Int32.ofInt 1))] [] h [false] 60 hq rfl ⟨rfl, trivial⟩ (fun _ => ?_)
      rw [nI_1', nI_1']
      exact r
    | false =>
      rw [cnt_f c] at r
      refine xq_n 4 [0, 1, 2] [(0, .ref 14), (1, .int (nI (cnt W s))), (2, .int (nI s + Int32.ofInt 1))] [] h [true] 60 hq rfl ⟨rfl, trivial⟩ (fun _ => ?_)
      rw [nI_1']
      exact r
theorem cca_q {f : Nat} (A : LA W m q r h) (m12 : m ≤ 12) (hq : a_rq a_tb h) : xq f xi_X2_countCarrying xmi_X2_countCarrying 0 [(0, .ref 14)] [] h (fun v h' => h = h' ∧ v = some (.int (nI (cnt W (2 ^ m))))) := by
  refine xq_n 4 [0, 1, 2] [(0, .ref 14), (1, .int (Int32.ofInt 0)), (2, .int (Int32.ofInt 0))] [] h [] 60 hq rfl trivial (fun _ => ?_)
  exact cca_l A m12 hq (2 ^ m) f 0 (by omega)
/-- a set and all others -/
def prP (W : Nat → Bool) (m s : Nat) : Bool := !(W s && W (co m s))
def sgP (W : Nat → Bool) (m s : Nat) : Bool := W s || W (co m s)
set_option maxRecDepth 100000 in
set_option maxHeartbeats 4000000 in
theorem ipr_l (A : LA W m q r h) (m12 : m ≤ 12) (hq : a_rq a_tb h) : ∀ (n f s : Nat), s + n = 2 ^ m → aln (prP W m) s = true → xq f xi_X2_isProper xmi_X2_isProper 2 [(0, .ref 14), (1, .int (nI s))] [] h (fun v h' => h = h' ∧ v = some (.int (bl (aln (prP W m) (2 ^ m))))) := by
  intro n
  induction n with
  | zero =>
    intro f s sn w
    have e : s = 2 ^ m := by omega
    subst e
    refine xq_n 48 [] [] [.int (Int32.ofInt 1)] h [true] 60 hq rfl ⟨gtt A m12, trivial⟩ (fun _ => ?_)
    exact xq_ret rfl rfl rfl ⟨rfl, by rw [w]; rfl⟩
  | succ n ih =>
    intro f s sn w
    have hs : s < 2 ^ m := by omega
    refine xq_n 15 [0, 1] [(0, .ref 14), (1, .int (nI s))] [.int (nI s), va_rf (xg none h.2.2.2 14 6)] h [false] 60 hq rfl ⟨gtf A m12 hs, trivial⟩ (fun _ => ?_)
    rw [A.1]
    refine xq_cr (As := [.ref q, .int (nI (s))]) (mj := xmi_X7_holds) (q := []) rfl rfl (fun _ _ => rfl) (xa_cs_ok (d := 0) (pc := 0) (lv := []) (nL := 0) A.2.1 rfl).1 (fun f => hl_q A m12 (hs) hq) ?_
    rintro v h1 ⟨rfl, rfl⟩
    cases c : W s with
    | false =>
      refine xq_n 2 [0, 1] [(0, .ref 14), (1, .int (nI s + Int32.ofInt 1))] [] h [true] 60 hq rfl ⟨rfl, trivial⟩ (fun _ => ?_)
      rw [nI_1']
      exact ih f (s + 1) (by omega) (aln_s w (by unfold prP; rw [c]; rfl))
    | true =>
      refine xq_n 33 [0, 1] [(0, .ref 14), (1, .int (nI s))] [.int (xg 0 h.2.1 14 8 &&& (nI s ^^^ Int32.ofInt (-1))), va_rf (xg none h.2.2.2 14 6)] h [false] 60 hq rfl ⟨rfl, trivial⟩ (fun _ => ?_)
      rw [A.1, A.2.2.2.2.2.1, coc_n m12 hs]
      refine xq_cr (As := [.ref q, .int (nI (co m s))]) (mj := xmi_X7_holds) (q := []) rfl rfl (fun _ _ => rfl) (xa_cs_ok (d := 0) (pc := 0) (lv := []) (nL := 0) A.2.1 rfl).1 (fun f => hl_q A m12 (co_lt) hq) ?_
      rintro v h1 ⟨rfl, rfl⟩
      cases c2 : W (co m s) with
      | false =>
        refine xq_n 2 [0, 1] [(0, .ref 14), (1, .int (nI s + Int32.ofInt 1))] [] h [true] 60 hq rfl ⟨rfl, trivial⟩ (fun _ => ?_)
        rw [nI_1']
        exact ih f (s + 1) (by omega) (aln_s w (by unfold prP; rw [c, c2]; rfl))
      | true =>
        refine xq_n 40 [] [] [.int (Int32.ofInt 0)] h [false] 60 hq rfl ⟨rfl, trivial⟩ (fun _ => ?_)
        exact xq_ret rfl rfl rfl ⟨rfl, by rw [aln_f (show prP W m s = false by unfold prP; rw [c, c2]; rfl) (2 ^ m) hs]; rfl⟩
theorem ipr_q {f : Nat} (A : LA W m q r h) (m12 : m ≤ 12) (hq : a_rq a_tb h) : xq f xi_X2_isProper xmi_X2_isProper 0 [(0, .ref 14)] [] h (fun v h' => h = h' ∧ v = some (.int (bl (aln (prP W m) (2 ^ m))))) := by
  refine xq_n 2 [0, 1] [(0, .ref 14), (1, .int (Int32.ofInt 0))] [] h [] 60 hq rfl trivial (fun _ => ?_)
  exact ipr_l A m12 hq (2 ^ m) f 0 (by omega) rfl
set_option maxRecDepth 100000 in
set_option maxHeartbeats 4000000 in
theorem isg_l (A : LA W m q r h) (m12 : m ≤ 12) (hq : a_rq a_tb h) : ∀ (n f s : Nat), s + n = 2 ^ m → aln (sgP W m) s = true → xq f xi_X2_isStrong xmi_X2_isStrong 2 [(0, .ref 14), (1, .int (nI s))] [] h (fun v h' => h = h' ∧ v = some (.int (bl (aln (sgP W m) (2 ^ m))))) := by
  intro n
  induction n with
  | zero =>
    intro f s sn w
    have e : s = 2 ^ m := by omega
    subst e
    refine xq_n 48 [] [] [.int (Int32.ofInt 1)] h [true] 60 hq rfl ⟨gtt A m12, trivial⟩ (fun _ => ?_)
    exact xq_ret rfl rfl rfl ⟨rfl, by rw [w]; rfl⟩
  | succ n ih =>
    intro f s sn w
    have hs : s < 2 ^ m := by omega
    refine xq_n 15 [0, 1] [(0, .ref 14), (1, .int (nI s))] [.int (nI s), va_rf (xg none h.2.2.2 14 6)] h [false] 60 hq rfl ⟨gtf A m12 hs, trivial⟩ (fun _ => ?_)
    rw [A.1]
    refine xq_cr (As := [.ref q, .int (nI (s))]) (mj := xmi_X7_holds) (q := []) rfl rfl (fun _ _ => rfl) (xa_cs_ok (d := 0) (pc := 0) (lv := []) (nL := 0) A.2.1 rfl).1 (fun f => hl_q A m12 (hs) hq) ?_
    rintro v h1 ⟨rfl, rfl⟩
    cases c : W s with
    | true =>
      refine xq_n 2 [0, 1] [(0, .ref 14), (1, .int (nI s + Int32.ofInt 1))] [] h [true] 60 hq rfl ⟨rfl, trivial⟩ (fun _ => ?_)
      rw [nI_1']
      exact ih f (s + 1) (by omega) (aln_s w (by unfold sgP; rw [c]; rfl))
    | false =>
      refine xq_n 33 [0, 1] [(0, .ref 14), (1, .int (nI s))] [.int (xg 0 h.2.1 14 8 &&& (nI s ^^^ Int32.ofInt (-1))), va_rf (xg none h.2.2.2 14 6)] h [false] 60 hq rfl ⟨rfl, trivial⟩ (fun _ => ?_)
      rw [A.1, A.2.2.2.2.2.1, coc_n m12 hs]
      refine xq_cr (As := [.ref q, .int (nI (co m s))]) (mj := xmi_X7_holds) (q := []) rfl rfl (fun _ _ => rfl) (xa_cs_ok (d := 0) (pc := 0) (lv := []) (nL := 0) A.2.1 rfl).1 (fun f => hl_q A m12 (co_lt) hq) ?_
      rintro v h1 ⟨rfl, rfl⟩
      cases c2 : W (co m s) with
      | true =>
        refine xq_n 2 [0, 1] [(0, .ref 14), (1, .int (nI s + Int32.ofInt 1))] [] h [true] 60 hq rfl ⟨rfl, trivial⟩ (fun _ => ?_)
        rw [nI_1']
        exact ih f (s + 1) (by omega) (aln_s w (by unfold sgP; rw [c, c2]; rfl))
      | false =>
        refine xq_n 40 [] [] [.int (Int32.ofInt 0)] h [false] 60 hq rfl ⟨rfl, trivial⟩ (fun _ => ?_)
        exact xq_ret rfl rfl rfl ⟨rfl, by rw [aln_f (show sgP W m s = false by unfold sgP; rw [c, c2]; rfl) (2 ^ m) hs]; rfl⟩
theorem isg_q {f : Nat} (A : LA W m q r h) (m12 : m ≤ 12) (hq : a_rq a_tb h) : xq f xi_X2_isStrong xmi_X2_isStrong 0 [(0, .ref 14)] [] h (fun v h' => h = h' ∧ v = some (.int (bl (aln (sgP W m) (2 ^ m))))) := by
  refine xq_n 2 [0, 1] [(0, .ref 14), (1, .int (Int32.ofInt 0))] [] h [] 60 hq rfl trivial (fun _ => ?_)
  exact isg_l A m12 hq (2 ^ m) f 0 (by omega) rfl
/-- one of two is no weaker -/
def ge1 (W : Nat → Bool) (m a b : Nat) : Bool := aln (gp W a b) (2 ^ m) || aln (gp W b a) (2 ^ m)
theorem ge1_s {a b : Nat} : ge1 W m a b = ge1 W m b a := Bool.or_comm _ _
def lnd (W : Nat → Bool) (m : Nat) : Bool := aln (fun a => aln (ge1 W m a) a) m
theorem cmv_2 {o u : Bool} : xe_c .ne (cmv o u) (Int32.ofInt 2) = (o || u) := by cases o <;> cases u <;> decide
set_option maxRecDepth 100000 in
set_option maxHeartbeats 4000000 in
theorem iln_in (m12 : m ≤ 12) (e7 : xg 0 h.2.1 14 7 = nI m) (P : PD W m h) (hq : a_rq a_tb h) {a : Nat} (ha : a < m) (K : ∀ f, aln (ge1 W m a) a = true → xq f xi_X2_isLined xmi_X2_isLined 2 [(0, .ref 14), (1, .int (nI (a + 1)))] [] h (fun v h' => h = h' ∧ v = some (.int (bl (lnd W m))))) : ∀ (n f b : Nat), b + n = a → aln (ge1 W m a) b = true → xq f xi_X2_isLined xmi_X2_isLined 12 [(0, .ref 14), (1, .int (nI a)), (2, .int (nI b))] [] h (fun v h' => h = h' ∧ v = some (.int (bl (lnd W m)))) := by
  intro n
  induction n with
  | zero =>
    intro f b bn w
    have e : b = a := by omega
    subst e
    refine xq_n 2 [0, 1] [(0, .ref 14), (1, .int (nI b + Int32.ofInt 1))] [] h [true] 60 hq rfl ⟨nge_t (by omega) (by omega) (Nat.le_refl _), trivial⟩ (fun _ => ?_)
    rw [nI_1']
    exact K f w
  | succ n ih =>
    intro f b bn w
    refine xq_n 20 [0, 1, 2] [(0, .ref 14), (1, .int (nI a)), (2, .int (nI b))] [.int (nI b), .int (nI a), .ref 14] h [false] 60 hq rfl ⟨nge_f (by omega) (by omega) (by omega), trivial⟩ (fun _ => ?_)
    refine xq_run hq rfl rfl (cmp_q m12 P ha (show b < m by omega) hq) ?_
    rintro v h1 ⟨rfl, rfl⟩
    have g := cmv_2 (o := aln (gp W a b) (2 ^ m)) (u := aln (gp W b a) (2 ^ m))
    cases c : (aln (gp W a b) (2 ^ m) || aln (gp W b a) (2 ^ m)) with
    | true =>
      rw [c] at g
      refine xq_n 12 [0, 1, 2] [(0, .ref 14), (1, .int (nI a)), (2, .int (nI b + Int32.ofInt 1))] [] h [true] 60 hq rfl ⟨g, trivial⟩ (fun _ => ?_)
      rw [nI_1']
      exact ih f (b + 1) (by omega) (aln_s w c)
    | false =>
      rw [c] at g
      refine xq_n 28 [] [] [.int (Int32.ofInt 0)] h [false] 60 hq rfl ⟨g, trivial⟩ (fun _ => ?_)
      refine xq_ret rfl rfl rfl ⟨rfl, ?_⟩
      unfold lnd
      rw [aln_f (P := fun a => aln (ge1 W m a) a) (k := a) (aln_f (P := ge1 W m a) (k := b) c a (by omega)) m ha]
      rfl
set_option maxRecDepth 100000 in
set_option maxHeartbeats 4000000 in
theorem iln_l (m12 : m ≤ 12) (e7 : xg 0 h.2.1 14 7 = nI m) (P : PD W m h) (hq : a_rq a_tb h) : ∀ (n f a : Nat), a + n = m → aln (fun a => aln (ge1 W m a) a) a = true → xq f xi_X2_isLined xmi_X2_isLined 2 [(0, .ref 14), (1, .int (nI a))] [] h (fun v h' => h = h' ∧ v = some (.int (bl (lnd W m)))) := by
  intro n
  induction n with
  | zero =>
    intro f a an w
    have e : a = m := by omega
    subst e
    refine xq_n 42 [] [] [.int (Int32.ofInt 1)] h [true] 60 hq rfl ⟨(show xe_c .ge (nI a) (xg 0 h.2.1 14 7) = true by rw [e7]; exact nge_t (by omega) (by omega) (Nat.le_refl _)), trivial⟩ (fun _ => ?_)
    exact xq_ret rfl rfl rfl ⟨rfl, by unfold lnd; rw [w]; rfl⟩
  | succ n ih =>
    intro f a an w
    refine xq_n 12 [0, 1, 2] [(0, .ref 14), (1, .int (nI a)), (2, .int (Int32.ofInt 0))] [] h [false] 60 hq rfl ⟨(show xe_c .ge (nI a) (xg 0 h.2.1 14 7) = false by rw [e7]; exact nge_f (by omega) (by omega) (by omega)), trivial⟩ (fun _ => ?_)
    exact iln_in m12 e7 P hq (show a < m by omega) (fun f w2 => ih f (a + 1) (by omega) (aln_s w w2)) a f 0 (by omega) rfl
theorem iln_q {f : Nat} (m12 : m ≤ 12) (e7 : xg 0 h.2.1 14 7 = nI m) (P : PD W m h) (hq : a_rq a_tb h) : xq f xi_X2_isLined xmi_X2_isLined 0 [(0, .ref 14)] [] h (fun v h' => h = h' ∧ v = some (.int (bl (lnd W m)))) := by
  refine xq_n 2 [0, 1] [(0, .ref 14), (1, .int (Int32.ofInt 0))] [] h [] 60 hq rfl trivial (fun _ => ?_)
  exact iln_l m12 e7 P hq m f 0 (by omega) rfl
end
/-- what many answers -/
def maV (W : Nat → Bool) (m : Nat) : Nat → Int32
  | 0 => nI (cnt W (2 ^ m))
  | 1 => nI (cnt (mi W m false) (2 ^ m))
  | 2 => nI (cnt (mi W m true) (2 ^ m))
  | 3 => nI (sz (ndN (mi W m false) (2 ^ m) m))
  | 4 => nI (sz (idN (mi W m false) (2 ^ m) m))
  | 5 => bl (aln (prP W m) (2 ^ m))
  | 6 => bl (aln (sgP W m) (2 ^ m))
  | 7 => bl (lnd W m)
  | _ => Int32.ofInt (-1)
def maA (W : Nat → Bool) (m : Nat) (x : Int32) : Int32 := if x.toInt < 0 ∨ 7 < x.toInt then Int32.ofInt (-1) else maV W m x.toInt.toNat
theorem maA_o {W : Nat → Bool} {m : Nat} {x : Int32} (h : x.toInt < 0 ∨ 7 < x.toInt) : maA W m x = Int32.ofInt (-1) := if_pos h
theorem maA_i {W : Nat → Bool} {m : Nat} {x : Int32} {i : Nat} (i8 : i < 8) (h : x.toInt = 0 + (i : Int)) : maA W m x = maV W m i := by
  unfold maA
  rw [if_neg (by omega), show x.toInt.toNat = i by omega]
theorem nd_lt {P : Nat → Bool} {N m : Nat} (m12 : m ≤ 12) : ndN P N m < 4096 := by
  have p12 : 2 ^ m ≤ 4096 := show 2 ^ m ≤ 2 ^ 12 from Nat.pow_le_pow_right (by decide) m12
  unfold ndN
  split
  · decide
  · exact Nat.lt_of_lt_of_le (msk_lt m) p12
theorem id_lt {P : Nat → Bool} {N m : Nat} (m12 : m ≤ 12) : idN P N m < 4096 := by
  have p12 : 2 ^ m ≤ 4096 := show 2 ^ m ≤ 2 ^ 12 from Nat.pow_le_pow_right (by decide) m12
  exact Nat.lt_of_lt_of_le (msk_lt m) p12
section
variable {mem sc : Nat} {d : Int32} {h : xh_H}
set_option maxRecDepth 100000 in
set_option maxHeartbeats 4000000 in
theorem ma9_q {f : Nat} {x : Int32} (hi : a_inv a_tb h) (hn : 72 ≤ h.1.length) (e9 : xg 0 h.2.1 0 9 = nI mem) (m1 : 1 ≤ mem) (m12 : mem ≤ 12) (e8 : xg 0 h.2.1 0 8 = nI sc) (sc8 : sc ≤ 8) (e10 : xg 0 h.2.1 0 10 = d) (si : SI h) (pi : PI h) (M : Wm (cvB (fun k => xg 0 h.2.1 51 k) (fun k => xg 0 h.2.1 44 k) mem sc d) mem) : xq f xi_X9_many xmi_X9_many 0 [(0, .ref 0), (1, .int x)] [] h (fun v h' => v = some (.int (maA (cvB (fun k => xg 0 h.2.1 51 k) (fun k => xg 0 h.2.1 44 k) mem sc d) mem x)) ∧ PI h') := by
  have hq := a_rq_of hi.1 hn
  refine xq_n 1 [1] [(1, .int x)] [.ref 0] h [] 60 hq rfl trivial (fun _ => ?_)
  refine xq_run hq rfl rfl (pt9_q hi hn e9 m1 m12 e8 sc8 e10 si pi) ?_
  rintro v h1 ⟨rfl, Y, PP, q, r, A, P⟩
  have hq1 := Yf_q hi hn Y
  obtain ⟨n1, n2⟩ := nd_e m12 M P
  refine xq_n 6 [2] [(2, .ref 14)] [.int x] h1 [] 60 hq1 rfl trivial (fun _ => ?_)
  refine xq_sw rfl (fun hx => ?_) (fun i off ho hx => ?_)
  · rw [maA_o hx]
    show xq f _ _ 122 _ _ _ _
    refine xq_n 123 [] [] [.int (Int32.ofInt (-1))] h1 [] 60 hq1 rfl trivial (fun _ => ?_)
    exact xq_ret rfl rfl rfl ⟨rfl, PP⟩
  · match i, ho with
    | 0, rfl =>
      rw [maA_i (by decide) hx]
      show xq f _ _ 52 _ _ _ _
      refine xq_n 53 [] [] [.ref 14] h1 [] 60 hq1 rfl trivial (fun _ => ?_)
      refine xq_run hq1 rfl rfl (cca_q A m12 hq1) ?_
      rintro v h2 ⟨rfl, rfl⟩
      exact xq_ret rfl rfl rfl ⟨rfl, PP⟩
    | 1, rfl =>
      rw [maA_i (by decide) hx]
      show xq f _ _ 57 _ _ _ _
      refine xq_n 61 [] [] [.int (xg 0 h1.2.1 14 9)] h1 [] 60 hq1 rfl trivial (fun _ => ?_)
      exact xq_ret rfl rfl rfl ⟨by rw [P.2.2.1.1, lcn_e m12 M]; rfl, PP⟩
    | 2, rfl =>
      rw [maA_i (by decide) hx]
      show xq f _ _ 62 _ _ _ _
      refine xq_n 66 [] [] [.int (xg 0 h1.2.1 14 10)] h1 [] 60 hq1 rfl trivial (fun _ => ?_)
      exact xq_ret rfl rfl rfl ⟨by rw [P.2.2.2.1.1, lcn_e m12 M]; rfl, PP⟩
    | 3, rfl =>
      rw [maA_i (by decide) hx]
      show xq f _ _ 67 _ _ _ _
      refine xq_n 71 [] [] [.int (xg 0 h1.2.1 14 11)] h1 [] 60 hq1 rfl trivial (fun _ => ?_)
      rw [n1]
      refine xq_run hq1 rfl rfl (bit_q (nd_lt m12) hq1) ?_
      rintro v h2 ⟨rfl, rfl⟩
      exact xq_ret rfl rfl rfl ⟨rfl, PP⟩
    | 4, rfl =>
      rw [maA_i (by decide) hx]
      show xq f _ _ 75 _ _ _ _
      refine xq_n 79 [] [] [.int (xg 0 h1.2.1 14 12)] h1 [] 60 hq1 rfl trivial (fun _ => ?_)
      rw [n2]
      refine xq_run hq1 rfl rfl (bit_q (id_lt m12) hq1) ?_
      rintro v h2 ⟨rfl, rfl⟩
      exact xq_ret rfl rfl rfl ⟨rfl, PP⟩
    | 5, rfl =>
      rw [maA_i (by decide) hx]
      show xq f _ _ 83 _ _ _ _
      refine xq_n 84 [] [] [.ref 14] h1 [] 60 hq1 rfl trivial (fun _ => ?_)
      refine xq_run hq1 rfl rfl (ipr_q A m12 hq1) ?_
      rintro v h2 ⟨rfl, rfl⟩
      show xq f _ _ _ _ _ _ (fun v h' => v = some (.int (bl (aln (prP (cvB (fun k => xg 0 h.2.1 51 k) (fun k => xg 0 h.2.1 44 k) mem sc d) mem) (2 ^ mem)))) ∧ PI h')
      cases aln (prP (cvB (fun k => xg 0 h.2.1 51 k) (fun k => xg 0 h.2.1 44 k) mem sc d) mem) (2 ^ mem) with
      | false =>
        refine xq_n 95 [] [] [.int (Int32.ofInt 0)] h1 [true] 60 hq1 rfl ⟨rfl, trivial⟩ (fun _ => ?_)
        exact xq_ret rfl rfl rfl ⟨rfl, PP⟩
      | true =>
        refine xq_n 95 [] [] [.int (Int32.ofInt 1)] h1 [false] 60 hq1 rfl ⟨rfl, trivial⟩ (fun _ => ?_)
        exact xq_ret rfl rfl rfl ⟨rfl, PP⟩
    | 6, rfl =>
      rw [maA_i (by decide) hx]
      show xq f _ _ 96 _ _ _ _
      refine xq_n 97 [] [] [.ref 14] h1 [] 60 hq1 rfl trivial (fun _ => ?_)
      refine xq_run hq1 rfl rfl (isg_q A m12 hq1) ?_
      rintro v h2 ⟨rfl, rfl⟩
      show xq f _ _ _ _ _ _ (fun v h' => v = some (.int (bl (aln (sgP (cvB (fun k => xg 0 h.2.1 51 k) (fun k => xg 0 h.2.1 44 k) mem sc d) mem) (2 ^ mem)))) ∧ PI h')
      cases aln (sgP (cvB (fun k => xg 0 h.2.1 51 k) (fun k => xg 0 h.2.1 44 k) mem sc d) mem) (2 ^ mem) with
      | false =>
        refine xq_n 108 [] [] [.int (Int32.ofInt 0)] h1 [true] 60 hq1 rfl ⟨rfl, trivial⟩ (fun _ => ?_)
        exact xq_ret rfl rfl rfl ⟨rfl, PP⟩
      | true =>
        refine xq_n 108 [] [] [.int (Int32.ofInt 1)] h1 [false] 60 hq1 rfl ⟨rfl, trivial⟩ (fun _ => ?_)
        exact xq_ret rfl rfl rfl ⟨rfl, PP⟩
    | 7, rfl =>
      rw [maA_i (by decide) hx]
      show xq f _ _ 109 _ _ _ _
      refine xq_n 110 [] [] [.ref 14] h1 [] 60 hq1 rfl trivial (fun _ => ?_)
      refine xq_run hq1 rfl rfl (iln_q m12 A.2.2.2.2.1 P hq1) ?_
      rintro v h2 ⟨rfl, rfl⟩
      show xq f _ _ _ _ _ _ (fun v h' => v = some (.int (bl (lnd (cvB (fun k => xg 0 h.2.1 51 k) (fun k => xg 0 h.2.1 44 k) mem sc d) mem))) ∧ PI h')
      cases lnd (cvB (fun k => xg 0 h.2.1 51 k) (fun k => xg 0 h.2.1 44 k) mem sc d) mem with
      | false =>
        refine xq_n 121 [] [] [.int (Int32.ofInt 0)] h1 [true] 60 hq1 rfl ⟨rfl, trivial⟩ (fun _ => ?_)
        exact xq_ret rfl rfl rfl ⟨rfl, PP⟩
      | true =>
        refine xq_n 121 [] [] [.int (Int32.ofInt 1)] h1 [false] 60 hq1 rfl ⟨rfl, trivial⟩ (fun _ => ?_)
        exact xq_ret rfl rfl rfl ⟨rfl, PP⟩
    | n + 8, ho => cases ho
end
end XMA
end
section
section XMR
section
variable {W : Nat → Bool} {m : Nat} {h : xh_H}
theorem rwc {s : Nat} (A : RA W m h) (m12 : m ≤ 12) (hs : s < 2 ^ m) : xg 0 h.2.1 53 (xg 0 h.2.1 39 35 - Int32.ofInt 1 &&& (nI s ^^^ Int32.ofInt (-1))).toNatClampNeg = bl (W (co m s)) := by
  rw [A.2.1, show nI (2 ^ m) - Int32.ofInt 1 = nI (2 ^ m - 1) from nI_sub (b := 1) (Nat.two_pow_pos m), coc_n m12 hs]
  exact rw0 A m12 co_lt
theorem rwr {s a : Nat} (A : RA W m h) (m12 : m ≤ 12) (hs : s < 2 ^ m) (ha : a < m) : xg 0 h.2.1 53 (nI s &&& ((Int32.ofInt 1 <<< (nI a &&& 31)) ^^^ Int32.ofInt (-1))).toNatClampNeg = bl (W (rmb s a)) := by
  rw [rmb_n (by omega)]
  exact rw0 A m12 (rmb_lt hs)
set_option maxRecDepth 100000 in
set_option maxHeartbeats 4000000 in
/-- X10.isLeast -/
theorem rle_l {s : Nat} (A : RA W m h) (m12 : m ≤ 12) (hs : s < 2 ^ m) (c0 : W s = true) (hq : a_rq a_tb h) : ∀ (j f a : Nat), a + j = m → aln (fun a => !(s.testBit a && dz W m false (rmb s a))) a = true → xq f xi_X10_isLeast xmi_X10_isLeast 13 [(0, .ref 39), (1, .int (nI s)), (2, .int (nI a))] [] h (fun v h' => h = h' ∧ v = some (.int (bl (mi W m false s)))) := by
  intro j
  induction j with
  | zero =>
    intro f a aj w
    have e : a = m := by omega
    subst e
    refine xq_n 54 [] [] [.int (Int32.ofInt 1)] h [true] 60 hq rfl ⟨(show xe_c .ge (nI a) (xg 0 h.2.1 39 4) = true by rw [A.1]; exact nge_t (by omega) (by omega) (Nat.le_refl _)), trivial⟩ (fun _ => ?_)
    exact xq_ret rfl rfl rfl ⟨rfl, by unfold mi; rw [w, show dz W a false s = true from c0]; rfl⟩
  | succ j ih =>
    intro f a aj w
    have ha : a < m := by omega
    have g0 : xe_c .ge (nI a) (xg 0 h.2.1 39 4) = false := by rw [A.1]; exact nge_f (by omega) (by omega) (by omega)
    have g1 := bn1 (rb0 m12 hs ha)
    have g2 := be' (rwr A m12 hs ha)
    cases c1 : s.testBit a with
    | false =>
      rw [c1] at g1
      refine xq_n 13 [0, 1, 2] [(0, .ref 39), (1, .int (nI s)), (2, .int (nI a + Int32.ofInt 1))] [] h [false, true] 60 hq rfl ⟨g0, g1, trivial⟩ (fun _ => ?_)
      rw [nI_1']
      exact ih f (a + 1) (by omega) (aln_s w (by rw [c1]; rfl))
    | true =>
      rw [c1] at g1
      cases c2 : W (rmb s a) with
      | true =>
        rw [c2] at g2
        refine xq_n 46 [] [] [.int (Int32.ofInt 0)] h [false, false, false] 60 hq rfl ⟨g0, g1, g2, trivial⟩ (fun _ => ?_)
        exact xq_ret rfl rfl rfl ⟨rfl, by unfold mi; rw [aln_f (k := a) (show (!(s.testBit a && dz W m false (rmb s a))) = false by rw [c1, show dz W m false (rmb s a) = true from c2]; rfl) m ha, Bool.and_false]; rfl⟩
      | false =>
        rw [c2] at g2
        refine xq_n 13 [0, 1, 2] [(0, .ref 39), (1, .int (nI s)), (2, .int (nI a + Int32.ofInt 1))] [] h [false, false, true] 60 hq rfl ⟨g0, g1, g2, trivial⟩ (fun _ => ?_)
        rw [nI_1']
        exact ih f (a + 1) (by omega) (aln_s w (by rw [show dz W m false (rmb s a) = false from c2, Bool.and_false]; rfl))
set_option maxRecDepth 100000 in
set_option maxHeartbeats 4000000 in
theorem rle_q {f s : Nat} (A : RA W m h) (m12 : m ≤ 12) (hs : s < 2 ^ m) (hq : a_rq a_tb h) : xq f xi_X10_isLeast xmi_X10_isLeast 0 [(0, .ref 39), (1, .int (nI s))] [] h (fun v h' => h = h' ∧ v = some (.int (bl (mi W m false s)))) := by
  have g := bn (rw0 A m12 hs)
  cases c0 : W s with
  | false =>
    rw [c0] at g
    refine xq_n 10 [] [] [.int (Int32.ofInt 0)] h [false] 60 hq rfl ⟨g, trivial⟩ (fun _ => ?_)
    exact xq_ret rfl rfl rfl ⟨rfl, by unfold mi; rw [show dz W m false s = false from c0]; rfl⟩
  | true =>
    rw [c0] at g
    refine xq_n 13 [0, 1, 2] [(0, .ref 39), (1, .int (nI s)), (2, .int (Int32.ofInt 0))] [] h [true] 60 hq rfl ⟨g, trivial⟩ (fun _ => ?_)
    exact rle_l A m12 hs c0 hq m f 0 (by omega) rfl
/-- X10.hinders -/
theorem rhi_q {f s : Nat} (A : RA W m h) (m12 : m ≤ 12) (hs : s < 2 ^ m) (hq : a_rq a_tb h) : xq f xi_X10_hinders xmi_X10_hinders 0 [(0, .ref 39), (1, .int (nI s))] [] h (fun v h' => h = h' ∧ v = some (.int (bl (dz W m true s)))) := by
  have g := bn (rwc A m12 hs)
  show xq f _ _ _ _ _ _ (fun v h' => h = h' ∧ v = some (.int (bl (!W (co m s)))))
  cases c0 : W (co m s) with
  | true =>
    rw [c0] at g
    refine xq_n 23 [] [] [.int (Int32.ofInt 0)] h [true] 60 hq rfl ⟨g, trivial⟩ (fun _ => ?_)
    exact xq_ret rfl rfl rfl ⟨rfl, rfl⟩
  | false =>
    rw [c0] at g
    refine xq_n 23 [] [] [.int (Int32.ofInt 1)] h [false] 60 hq rfl ⟨g, trivial⟩ (fun _ => ?_)
    exact xq_ret rfl rfl rfl ⟨rfl, rfl⟩
set_option maxRecDepth 100000 in
set_option maxHeartbeats 4000000 in
/-- X10.isLeastHinder -/
theorem rlh_l {s : Nat} (A : RA W m h) (m12 : m ≤ 12) (hs : s < 2 ^ m) (c0 : dz W m true s = true) (hq : a_rq a_tb h) : ∀ (j f a : Nat), a + j = m → aln (fun a => !(s.testBit a && dz W m true (rmb s a))) a = true → xq f xi_X10_isLeastHinder xmi_X10_isLeastHinder 12 [(0, .ref 39), (1, .int (nI s)), (2, .int (nI a))] [] h (fun v h' => h = h' ∧ v = some (.int (bl (mi W m true s)))) := by
  intro j
  induction j with
  | zero =>
    intro f a aj w
    have e : a = m := by omega
    subst e
    refine xq_n 52 [] [] [.int (Int32.ofInt 1)] h [true] 60 hq rfl ⟨(show xe_c .ge (nI a) (xg 0 h.2.1 39 4) = true by rw [A.1]; exact nge_t (by omega) (by omega) (Nat.le_refl _)), trivial⟩ (fun _ => ?_)
    exact xq_ret rfl rfl rfl ⟨rfl, by unfold mi; rw [w, c0]; rfl⟩
  | succ j ih =>
    intro f a aj w
    have ha : a < m := by omega
    have g0 : xe_c .ge (nI a) (xg 0 h.2.1 39 4) = false := by rw [A.1]; exact nge_f (by omega) (by omega) (by omega)
    have g1 := bn1 (rb0 m12 hs ha)
    cases c1 : s.testBit a with
    | false =>
      rw [c1] at g1
      refine xq_n 12 [0, 1, 2] [(0, .ref 39), (1, .int (nI s)), (2, .int (nI a + Int32.ofInt 1))] [] h [false, true] 60 hq rfl ⟨g0, g1, trivial⟩ (fun _ => ?_)
      rw [nI_1']
      exact ih f (a + 1) (by omega) (aln_s w (by rw [c1]; rfl))
    | true =>
      rw [c1] at g1
      refine xq_n 37 [0, 1, 2] [(0, .ref 39), (1, .int (nI s)), (2, .int (nI a))] [.int (nI s &&& ((Int32.ofInt 1 <<< (nI a &&& 31)) ^^^ Int32.ofInt (-1))), .ref 39] h [false, false] 60 hq rfl ⟨g0, g1, trivial⟩ (fun _ => ?_)
      rw [rmb_n (by omega)]
      refine xq_run hq rfl rfl (rhi_q A m12 (rmb_lt hs) hq) ?_
      rintro v h1 ⟨rfl, rfl⟩
      cases c2 : dz W m true (rmb s a) with
      | true =>
        refine xq_n 44 [] [] [.int (Int32.ofInt 0)] h [false] 60 hq rfl ⟨rfl, trivial⟩ (fun _ => ?_)
        exact xq_ret rfl rfl rfl ⟨rfl, by unfold mi; rw [aln_f (k := a) (show (!(s.testBit a && dz W m true (rmb s a))) = false by rw [c1, c2]; rfl) m ha, Bool.and_false]; rfl⟩
      | false =>
        refine xq_n 12 [0, 1, 2] [(0, .ref 39), (1, .int (nI s)), (2, .int (nI a + Int32.ofInt 1))] [] h [true] 60 hq rfl ⟨rfl, trivial⟩ (fun _ => ?_)
        rw [nI_1']
        exact ih f (a + 1) (by omega) (aln_s w (by rw [c2, Bool.and_false]; rfl))
theorem rlh_q {f s : Nat} (A : RA W m h) (m12 : m ≤ 12) (hs : s < 2 ^ m) (hq : a_rq a_tb h) : xq f xi_X10_isLeastHinder xmi_X10_isLeastHinder 0 [(0, .ref 39), (1, .int (nI s))] [] h (fun v h' => h = h' ∧ v = some (.int (bl (mi W m true s)))) := by
  refine xq_n 2 [0, 1] [(0, .ref 39), (1, .int (nI s))] [.int (nI s), .ref 39] h [] 60 hq rfl trivial (fun _ => ?_)
  refine xq_run hq rfl rfl (rhi_q A m12 hs hq) ?_
  rintro v h1 ⟨rfl, rfl⟩
  cases c0 : dz W m true s with
  | false =>
    refine xq_n 9 [] [] [.int (Int32.ofInt 0)] h [false] 60 hq rfl ⟨rfl, trivial⟩ (fun _ => ?_)
    exact xq_ret rfl rfl rfl ⟨rfl, by unfold mi; rw [c0]; rfl⟩
  | true =>
    refine xq_n 12 [0, 1, 2] [(0, .ref 39), (1, .int (nI s)), (2, .int (Int32.ofInt 0))] [] h [true] 60 hq rfl ⟨rfl, trivial⟩ (fun _ => ?_)
    exact rlh_l A m12 hs c0 hq m f 0 (by omega) rfl
/-- X10.isOfKind -/
theorem rik_q {f s : Nat} {x : Int32} (A : RA W m h) (m12 : m ≤ 12) (hs : s < 2 ^ m) (hq : a_rq a_tb h) : xq f xi_X10_isOfKind xmi_X10_isOfKind 0 [(0, .ref 39), (1, .int (nI s)), (2, .int x)] [] h (fun v h' => h = h' ∧ v = some (.int (bl (mi W m (xe_c .ne x (Int32.ofInt 1)) s)))) := by
  cases c : xe_c .ne x (Int32.ofInt 1) with
  | false =>
    refine xq_n 7 [] [] [.int (nI s), .ref 39] h [false] 60 hq rfl ⟨c, trivial⟩ (fun _ => ?_)
    refine xq_run hq rfl rfl (rle_q A m12 hs hq) ?_
    rintro v h1 ⟨rfl, rfl⟩
    refine xq_n 18 [] [] [.int (bl (mi W m false s))] h [] 60 hq rfl trivial (fun _ => ?_)
    exact xq_ret rfl rfl rfl ⟨rfl, rfl⟩
  | true =>
    refine xq_n 15 [] [] [.int (nI s), .ref 39] h [true] 60 hq rfl ⟨c, trivial⟩ (fun _ => ?_)
    refine xq_run hq rfl rfl (rlh_q A m12 hs hq) ?_
    rintro v h1 ⟨rfl, rfl⟩
    exact xq_ret rfl rfl rfl ⟨rfl, rfl⟩
set_option maxRecDepth 100000 in
set_option maxHeartbeats 4000000 in
/-- X10.countOf -/
theorem rco_l {x : Int32} (A : RA W m h) (m12 : m ≤ 12) (hq : a_rq a_tb h) : ∀ (n f s : Nat), s + n = 2 ^ m → xq f xi_X10_countOf xmi_X10_countOf 4 [(0, .ref 39), (1, .int x), (2, .int (nI (cnt (mi W m (xe_c .ne x (Int32.ofInt 1))) s))), (3, .int (nI s))] [] h (fun v h' => h = h' ∧ v = some (.int (nI (cnt (mi W m (xe_c .ne x (Int32.ofInt 1))) (2 ^ m))))) := by
  intro n
  induction n with
  | zero =>
    intro f s sn
    have e : s = 2 ^ m := by omega
    subst e
    refine xq_n 31 [] [] [.int (nI (cnt (mi W m (xe_c .ne x (Int32.ofInt 1))) (2 ^ m)))] h [true] 60 hq rfl ⟨rgt A m12, trivial⟩ (fun _ => ?_)
    exact xq_ret rfl rfl rfl ⟨rfl, rfl⟩
  | succ n ih =>
    intro f s sn
    have r := ih f (s + 1) (by omega)
    refine xq_n 15 [0, 1, 2, 3] [(0, .ref 39), (1, .int x), (2, .int (nI (cnt (mi W m (xe_c .ne x (Int32.ofInt 1))) s))), (3, .int (nI s))] [.int x, .int (nI s), .ref 39] h [false] 60 hq rfl ⟨rgf A m12 (by omega), trivial⟩ (fun _ => ?_)
    refine xq_run hq rfl rfl (rik_q A m12 (by omega) hq) ?_
    rintro v h1 ⟨rfl, rfl⟩
    cases c : mi W m (xe_c .ne x (Int32.ofInt 1)) s with
    | true =>
      rw [cnt_t c] at r
      refine xq_n 4 [0, 1, 2, 3] [(0, .ref 39), (1, .int x), (2, .int (nI (cnt (mi W m (xe_c .ne x (Int32.ofInt 1))) s) + Int32.ofInt 1)), (3, .int (nI s + Int32.ofInt 1))] [] h [false] 60 hq rfl ⟨rfl, trivial⟩ (fun _ => ?_)
      rw [nI_1', nI_1']
      exact r
    | false =>
      rw [cnt_f c] at r
      refine xq_n 4 [0, 1, 2, 3] [(0, .ref 39), (1, .int x), (2, .int (nI (cnt (mi W m (xe_c .ne x (Int32.ofInt 1))) s))), (3, .int (nI s + Int32.ofInt 1))] [] h [true] 60 hq rfl ⟨rfl, trivial⟩ (fun _ => ?_)
      rw [nI_1']
      exact r
theorem rco_q {f : Nat} {x : Int32} (A : RA W m h) (m12 : m ≤ 12) (hq : a_rq a_tb h) : xq f xi_X10_countOf xmi_X10_countOf 0 [(0, .ref 39), (1, .int x)] [] h (fun v h' => h = h' ∧ v = some (.int (nI (cnt (mi W m (xe_c .ne x (Int32.ofInt 1))) (2 ^ m))))) := by
  refine xq_n 4 [0, 1, 2, 3] [(0, .ref 39), (1, .int x), (2, .int (Int32.ofInt 0)), (3, .int (Int32.ofInt 0))] [] h [] 60 hq rfl trivial (fun _ => ?_)
  exact rco_l A m12 hq (2 ^ m) f 0 (by omega)
/-- in one of them -/
def inO (P : Nat → Bool) (N a : Nat) : Bool := !inN P N a
set_option maxRecDepth 100000 in
set_option maxHeartbeats 4000000 in
/-- X10.whoIs -/
theorem rwh_l {x : Int32} (A : RA W m h) (m12 : m ≤ 12) (hq : a_rq a_tb h) {Q : Option Value → xh_H → Prop} (K : ∀ f, xq f xi_X10_whoIs xmi_X10_whoIs 55 [(0, .ref 39), (1, .int x), (2, .int (nI (msk (inA (mi W m false) (2 ^ m)) m))), (3, .int (nI (msk (inO (mi W m false) (2 ^ m)) m))), (4, .int (bl (decide (cnt (mi W m false) (2 ^ m) ≠ 0))))] [] h Q) : ∀ (n f s : Nat), s + n = 2 ^ m → xq f xi_X10_whoIs xmi_X10_whoIs 15 [(0, .ref 39), (1, .int x), (2, .int (nI (msk (inA (mi W m false) s) m))), (3, .int (nI (msk (inO (mi W m false) s) m))), (4, .int (bl (decide (cnt (mi W m false) s ≠ 0)))), (5, .int (nI s))] [] h Q := by
  have p12 : 2 ^ m ≤ 4096 := show 2 ^ m ≤ 2 ^ 12 from Nat.pow_le_pow_right (by decide) m12
  intro n
  induction n with
  | zero =>
    intro f s sn
    have e : s = 2 ^ m := by omega
    subst e
    refine xq_n 55 [0, 1, 2, 3, 4] [(0, .ref 39), (1, .int x), (2, .int (nI (msk (inA (mi W m false) (2 ^ m)) m))), (3, .int (nI (msk (inO (mi W m false) (2 ^ m)) m))), (4, .int (bl (decide (cnt (mi W m false) (2 ^ m) ≠ 0))))] [] h [true] 60 hq rfl ⟨rgt A m12, trivial⟩ (fun _ => ?_)
    exact K f
  | succ n ih =>
    intro f s sn
    have hs : s < 2 ^ m := by omega
    have r := ih f (s + 1) (by omega)
    refine xq_n 27 [0, 1, 2, 3, 4, 5] [(0, .ref 39), (1, .int x), (2, .int (nI (msk (inA (mi W m false) s) m))), (3, .int (nI (msk (inO (mi W m false) s) m))), (4, .int (bl (decide (cnt (mi W m false) s ≠ 0)))), (5, .int (nI s))] [.int (nI s), .ref 39] h [false] 60 hq rfl ⟨rgf A m12 hs, trivial⟩ (fun _ => ?_)
    refine xq_run hq rfl rfl (rle_q A m12 hs hq) ?_
    rintro v h1 ⟨rfl, rfl⟩
    cases c : mi W m false s with
    | false =>
      have e2 : msk (inA (mi W m false) (s + 1)) m = msk (inA (mi W m false) s) m := msk_c m (fun a _ => aln_1 (by rw [c]; rfl))
      have e3 : msk (inO (mi W m false) (s + 1)) m = msk (inO (mi W m false) s) m := msk_c m (fun a _ => congrArg (fun b => !b) (aln_1 (by rw [c]; rfl)))
      rw [e2, e3, cnt_f c] at r
      refine xq_n 15 [0, 1, 2, 3, 4, 5] [(0, .ref 39), (1, .int x), (2, .int (nI (msk (inA (mi W m false) s) m))), (3, .int (nI (msk (inO (mi W m false) s) m))), (4, .int (bl (decide (cnt (mi W m false) s ≠ 0)))), (5, .int (nI s + Int32.ofInt 1))] [] h [false] 60 hq rfl ⟨rfl, trivial⟩ (fun _ => ?_)
      rw [nI_1']
      exact r
    | true =>
      have e2 : nI (msk (inA (mi W m false) s) m) &&& nI s = nI (msk (inA (mi W m false) (s + 1)) m) := by
        rw [nI_and]
        congr 1
        refine msk_e (fun i => ?_)
        rw [Nat.testBit_and, msk_tb]
        show _ = (decide (i < m) && (inA (mi W m false) s i && (!mi W m false s || s.testBit i)))
        rw [c, Bool.and_assoc]
        rfl
      have e3 : nI (msk (inO (mi W m false) s) m) ||| nI s = nI (msk (inO (mi W m false) (s + 1)) m) := by
        rw [nI_or]
        congr 1
        refine msk_e (fun i => ?_)
        rw [Nat.testBit_or, msk_tb]
        show _ = (decide (i < m) && !(inN (mi W m false) s i && (!mi W m false s || !s.testBit i)))
        rw [c]
        show (decide (i < m) && !inN (mi W m false) s i || s.testBit i) = (decide (i < m) && !(inN (mi W m false) s i && !s.testBit i))
        cases z : s.testBit i with
        | false => cases decide (i < m) <;> cases inN (mi W m false) s i <;> rfl
        | true => rw [decide_eq_true (tb_lt hs z)]; cases inN (mi W m false) s i <;> rfl
      rw [cnt_t c, decide_eq_true (show cnt (mi W m false) s + 1 ≠ 0 by omega)] at r
      refine xq_n 15 [0, 1, 2, 3, 4, 5] [(0, .ref 39), (1, .int x), (2, .int (nI (msk (inA (mi W m false) s) m) &&& nI s)), (3, .int (nI (msk (inO (mi W m false) s) m) ||| nI s)), (4, .int (Int32.ofInt 1)), (5, .int (nI s + Int32.ofInt 1))] [] h [true] 60 hq rfl ⟨rfl, trivial⟩ (fun _ => ?_)
      rw [nI_1', e2, e3]
      exact r
set_option maxRecDepth 100000 in
set_option maxHeartbeats 4000000 in
theorem rwh_q {f : Nat} {x : Int32} (A : RA W m h) (m12 : m ≤ 12) (hq : a_rq a_tb h) : xq f xi_X10_whoIs xmi_X10_whoIs 0 [(0, .ref 39), (1, .int x)] [] h (fun v h' => h = h' ∧ v = some (.int (nI (cond (xe_c .eq x 0) (ndN (mi W m false) (2 ^ m) m) (idN (mi W m false) (2 ^ m) m))))) := by
  refine xq_n 15 [0, 1, 2, 3, 4, 5] [(0, .ref 39), (1, .int x), (2, .int (xg 0 h.2.1 39 35 - Int32.ofInt 1)), (3, .int (Int32.ofInt 0)), (4, .int (Int32.ofInt 0)), (5, .int (Int32.ofInt 0))] [] h [] 60 hq rfl trivial (fun _ => ?_)
  have ea : xg 0 h.2.1 39 35 - Int32.ofInt 1 = nI (2 ^ m - 1) := by rw [A.2.1]; exact nI_sub (b := 1) (Nat.two_pow_pos m)
  rw [ea]
  have s0 : nI (2 ^ m - 1) = nI (msk (inA (mi W m false) 0) m) := by rw [← msk_f]; rfl
  have z0 : Int32.ofInt 0 = nI (msk (inO (mi W m false) 0) m) := by
    rw [show msk (inO (mi W m false) 0) m = 0 from Nat.eq_of_testBit_eq (fun i => by rw [msk_tb, Nat.zero_testBit]; exact Bool.and_false _)]
    rfl
  have r := rwh_l (x := x) (Q := fun v h' => h = h' ∧ v = some (.int (nI (cond (xe_c .eq x 0) (ndN (mi W m false) (2 ^ m) m) (idN (mi W m false) (2 ^ m) m))))) A m12 hq (fun f => ?_) (2 ^ m) f 0 (by omega)
  · rw [← s0, ← z0] at r
    exact r
  cases c : xe_c .eq x 0 with
  | false =>
    refine xq_n 82 [] [] [.int (xg 0 h.2.1 39 35 - Int32.ofInt 1 &&& (nI (msk (inO (mi W m false) (2 ^ m)) m) ^^^ Int32.ofInt (-1)))] h [false] 60 hq rfl ⟨c, trivial⟩ (fun _ => ?_)
    refine xq_ret rfl rfl rfl ⟨rfl, ?_⟩
    rw [ea]
    congr 2
    refine nI_andn (fun i _ => ?_)
    show _ = (idN (mi W m false) (2 ^ m) m).testBit i
    unfold idN
    rw [msk_tb, msk_tb, Nat.testBit_two_pow_sub_one]
    unfold inO
    cases decide (i < m) <;> cases inN (mi W m false) (2 ^ m) i <;> rfl
  | true =>
    unfold ndN
    by_cases z : cnt (mi W m false) (2 ^ m) = 0
    · rw [decide_eq_false (fun y => y z)]
      refine xq_n 82 [] [] [.int (Int32.ofInt 0)] h [true, true] 60 hq rfl ⟨c, rfl, trivial⟩ (fun _ => ?_)
      exact xq_ret rfl rfl rfl ⟨rfl, by show _ = some (Value.int (nI (if _ then _ else _))); rw [if_pos z]; rfl⟩
    · rw [decide_eq_true z]
      refine xq_n 82 [] [] [.int (nI (msk (inA (mi W m false) (2 ^ m)) m))] h [true, false] 60 hq rfl ⟨c, rfl, trivial⟩ (fun _ => ?_)
      exact xq_ret rfl rfl rfl ⟨rfl, by show _ = some (Value.int (nI (if _ then _ else _))); rw [if_neg z]⟩
set_option maxRecDepth 100000 in
set_option maxHeartbeats 4000000 in
theorem rpr_l (A : RA W m h) (m12 : m ≤ 12) (hq : a_rq a_tb h) : ∀ (n f s : Nat), s + n = 2 ^ m → aln (prP W m) s = true → xq f xi_X10_isProper xmi_X10_isProper 2 [(0, .ref 39), (1, .int (nI s))] [] h (fun v h' => h = h' ∧ v = some (.int (bl (aln (prP W m) (2 ^ m))))) := by
  intro n
  induction n with
  | zero =>
    intro f s sn w
    have e : s = 2 ^ m := by omega
    subst e
    refine xq_n 46 [] [] [.int (Int32.ofInt 1)] h [true] 60 hq rfl ⟨rgt A m12, trivial⟩ (fun _ => ?_)
    exact xq_ret rfl rfl rfl ⟨rfl, by rw [w]; rfl⟩
  | succ n ih =>
    intro f s sn w
    have hs : s < 2 ^ m := by omega
    have g1 := be' (rw0 A m12 hs)
    have g2 := be' (rwc A m12 hs)
    cases c : W s with
    | false =>
      rw [c] at g1
      refine xq_n 2 [0, 1] [(0, .ref 39), (1, .int (nI s + Int32.ofInt 1))] [] h [false, true] 60 hq rfl ⟨rgf A m12 hs, g1, trivial⟩ (fun _ => ?_)
      rw [nI_1']
      exact ih f (s + 1) (by omega) (aln_s w (by unfold prP; rw [c]; rfl))
    | true =>
      rw [c] at g1
      cases c2 : W (co m s) with
      | false =>
        rw [c2] at g2
        refine xq_n 2 [0, 1] [(0, .ref 39), (1, .int (nI s + Int32.ofInt 1))] [] h [false, false, true] 60 hq rfl ⟨rgf A m12 hs, g1, g2, trivial⟩ (fun _ => ?_)
        rw [nI_1']
        exact ih f (s + 1) (by omega) (aln_s w (by unfold prP; rw [c, c2]; rfl))
      | true =>
        rw [c2] at g2
        refine xq_n 38 [] [] [.int (Int32.ofInt 0)] h [false, false, false] 60 hq rfl ⟨rgf A m12 hs, g1, g2, trivial⟩ (fun _ => ?_)
        exact xq_ret rfl rfl rfl ⟨rfl, by rw [aln_f (show prP W m s = false by unfold prP; rw [c, c2]; rfl) (2 ^ m) hs]; rfl⟩
theorem rpr_q {f : Nat} (A : RA W m h) (m12 : m ≤ 12) (hq : a_rq a_tb h) : xq f xi_X10_isProper xmi_X10_isProper 0 [(0, .ref 39)] [] h (fun v h' => h = h' ∧ v = some (.int (bl (aln (prP W m) (2 ^ m))))) := by
  refine xq_n 2 [0, 1] [(0, .ref 39), (1, .int (Int32.ofInt 0))] [] h [] 60 hq rfl trivial (fun _ => ?_)
  exact rpr_l A m12 hq (2 ^ m) f 0 (by omega) rfl
set_option maxRecDepth 100000 in
set_option maxHeartbeats 4000000 in
theorem rstr_l (A : RA W m h) (m12 : m ≤ 12) (hq : a_rq a_tb h) : ∀ (n f s : Nat), s + n = 2 ^ m → aln (sgP W m) s = true → xq f xi_X10_isStrong xmi_X10_isStrong 2 [(0, .ref 39), (1, .int (nI s))] [] h (fun v h' => h = h' ∧ v = some (.int (bl (aln (sgP W m) (2 ^ m))))) := by
  intro n
  induction n with
  | zero =>
    intro f s sn w
    have e : s = 2 ^ m := by omega
    subst e
    refine xq_n 46 [] [] [.int (Int32.ofInt 1)] h [true] 60 hq rfl ⟨rgt A m12, trivial⟩ (fun _ => ?_)
    exact xq_ret rfl rfl rfl ⟨rfl, by rw [w]; rfl⟩
  | succ n ih =>
    intro f s sn w
    have hs : s < 2 ^ m := by omega
    have g1 := bn (rw0 A m12 hs)
    have g2 := bn (rwc A m12 hs)
    cases c : W s with
    | true =>
      rw [c] at g1
      refine xq_n 2 [0, 1] [(0, .ref 39), (1, .int (nI s + Int32.ofInt 1))] [] h [false, true] 60 hq rfl ⟨rgf A m12 hs, g1, trivial⟩ (fun _ => ?_)
      rw [nI_1']
      exact ih f (s + 1) (by omega) (aln_s w (by unfold sgP; rw [c]; rfl))
    | false =>
      rw [c] at g1
      cases c2 : W (co m s) with
      | true =>
        rw [c2] at g2
        refine xq_n 2 [0, 1] [(0, .ref 39), (1, .int (nI s + Int32.ofInt 1))] [] h [false, false, true] 60 hq rfl ⟨rgf A m12 hs, g1, g2, trivial⟩ (fun _ => ?_)
        rw [nI_1']
        exact ih f (s + 1) (by omega) (aln_s w (by unfold sgP; rw [c, c2]; rfl))
      | false =>
        rw [c2] at g2
        refine xq_n 38 [] [] [.int (Int32.ofInt 0)] h [false, false, false] 60 hq rfl ⟨rgf A m12 hs, g1, g2, trivial⟩ (fun _ => ?_)
        exact xq_ret rfl rfl rfl ⟨rfl, by rw [aln_f (show sgP W m s = false by unfold sgP; rw [c, c2]; rfl) (2 ^ m) hs]; rfl⟩
theorem rstr_q {f : Nat} (A : RA W m h) (m12 : m ≤ 12) (hq : a_rq a_tb h) : xq f xi_X10_isStrong xmi_X10_isStrong 0 [(0, .ref 39)] [] h (fun v h' => h = h' ∧ v = some (.int (bl (aln (sgP W m) (2 ^ m))))) := by
  refine xq_n 2 [0, 1] [(0, .ref 39), (1, .int (Int32.ofInt 0))] [] h [] 60 hq rfl trivial (fun _ => ?_)
  exact rstr_l A m12 hq (2 ^ m) f 0 (by omega) rfl
theorem hdv_0 {o u : Bool} : xe_c .ne (hdv o u) 0 = (o || u) := by cases o <;> cases u <;> decide
theorem lnd_t (h : ∀ a b, a < b → b < m → ge1 W m a b = true) : lnd W m = true := aln_i (fun a ha => aln_i (fun b hb => by rw [ge1_s]; exact h b a hb ha))
theorem lnd_f {a b : Nat} (hab : a < b) (hb : b < m) (h : ge1 W m a b = false) : lnd W m = false := aln_f (P := fun a => aln (ge1 W m a) a) (k := b) (aln_f (P := ge1 W m b) (k := a) (by rw [ge1_s]; exact h) b hab) m hb
set_option maxRecDepth 100000 in
set_option maxHeartbeats 4000000 in
theorem rln_in (A : RA W m h) (m12 : m ≤ 12) (hq : a_rq a_tb h) {a : Nat} (ha : a < m) (K : ∀ f, (∀ b, a < b → b < m → ge1 W m a b = true) → xq f xi_X10_isLined xmi_X10_isLined 2 [(0, .ref 39), (1, .int (nI (a + 1)))] [] h (fun v h' => h = h' ∧ v = some (.int (bl (lnd W m))))) : ∀ (n f b : Nat), b + n = m → a < b → (∀ b', a < b' → b' < b → ge1 W m a b' = true) → xq f xi_X10_isLined xmi_X10_isLined 14 [(0, .ref 39), (1, .int (nI a)), (2, .int (nI b))] [] h (fun v h' => h = h' ∧ v = some (.int (bl (lnd W m)))) := by
  intro n
  induction n with
  | zero =>
    intro f b bn ab w
    have e : b = m := by omega
    subst e
    refine xq_n 2 [0, 1] [(0, .ref 39), (1, .int (nI a + Int32.ofInt 1))] [] h [true] 60 hq rfl ⟨(show xe_c .ge (nI b) (xg 0 h.2.1 39 4) = true by rw [A.1]; exact nge_t (by omega) (by omega) (Nat.le_refl _)), trivial⟩ (fun _ => ?_)
    rw [nI_1']
    exact K f w
  | succ n ih =>
    intro f b bn ab w
    have hb : b < m := by omega
    refine xq_n 25 [0, 1, 2] [(0, .ref 39), (1, .int (nI a)), (2, .int (nI b))] [.int (nI b), .int (nI a), .ref 39] h [false] 60 hq rfl ⟨(show xe_c .ge (nI b) (xg 0 h.2.1 39 4) = false by rw [A.1]; exact nge_f (by omega) (by omega) hb), trivial⟩ (fun _ => ?_)
    refine xq_run hq rfl rfl (hel_q A m12 ha hb hq) ?_
    rintro v h1 ⟨rfl, rfl⟩
    have g := hdv_0 (o := aln (gp W a b) (2 ^ m)) (u := aln (gp W b a) (2 ^ m))
    cases c : (aln (gp W a b) (2 ^ m) || aln (gp W b a) (2 ^ m)) with
    | true =>
      rw [c] at g
      refine xq_n 14 [0, 1, 2] [(0, .ref 39), (1, .int (nI a)), (2, .int (nI b + Int32.ofInt 1))] [] h [true] 60 hq rfl ⟨g, trivial⟩ (fun _ => ?_)
      rw [nI_1']
      refine ih f (b + 1) (by omega) (by omega) (fun b' h1 h2 => ?_)
      by_cases z : b' = b
      · rw [z]; exact c
      · exact w b' h1 (by omega)
    | false =>
      rw [c] at g
      refine xq_n 32 [] [] [.int (Int32.ofInt 0)] h [false] 60 hq rfl ⟨g, trivial⟩ (fun _ => ?_)
      exact xq_ret rfl rfl rfl ⟨rfl, by rw [lnd_f ab hb c]; rfl⟩
set_option maxRecDepth 100000 in
set_option maxHeartbeats 4000000 in
theorem rln_l (A : RA W m h) (m12 : m ≤ 12) (hq : a_rq a_tb h) : ∀ (n f a : Nat), a + n = m → (∀ a' b, a' < a → a' < b → b < m → ge1 W m a' b = true) → xq f xi_X10_isLined xmi_X10_isLined 2 [(0, .ref 39), (1, .int (nI a))] [] h (fun v h' => h = h' ∧ v = some (.int (bl (lnd W m)))) := by
  intro n
  induction n with
  | zero =>
    intro f a an w
    have e : a = m := by omega
    subst e
    refine xq_n 46 [] [] [.int (Int32.ofInt 1)] h [true] 60 hq rfl ⟨(show xe_c .ge (nI a) (xg 0 h.2.1 39 4) = true by rw [A.1]; exact nge_t (by omega) (by omega) (Nat.le_refl _)), trivial⟩ (fun _ => ?_)
    exact xq_ret rfl rfl rfl ⟨rfl, by rw [lnd_t (fun a' b h1 h2 => w a' b (by omega) h1 h2)]; rfl⟩
  | succ n ih =>
    intro f a an w
    refine xq_n 14 [0, 1, 2] [(0, .ref 39), (1, .int (nI a)), (2, .int (nI a + Int32.ofInt 1))] [] h [false] 60 hq rfl ⟨(show xe_c .ge (nI a) (xg 0 h.2.1 39 4) = false by rw [A.1]; exact nge_f (by omega) (by omega) (by omega)), trivial⟩ (fun _ => ?_)
    rw [nI_1']
    refine rln_in A m12 hq (show a < m by omega) (fun f w2 => ih f (a + 1) (by omega) (fun a' b h1 h2 h3 => ?_)) n f (a + 1) (by omega) (by omega) (fun b' h1 h2 => by omega)
    by_cases z : a' = a
    · rw [z]; rw [z] at h2; exact w2 b h2 h3
    · exact w a' b (by omega) h2 h3
theorem rln_q {f : Nat} (A : RA W m h) (m12 : m ≤ 12) (hq : a_rq a_tb h) : xq f xi_X10_isLined xmi_X10_isLined 0 [(0, .ref 39)] [] h (fun v h' => h = h' ∧ v = some (.int (bl (lnd W m)))) := by
  refine xq_n 2 [0, 1] [(0, .ref 39), (1, .int (Int32.ofInt 0))] [] h [] 60 hq rfl trivial (fun _ => ?_)
  exact rln_l A m12 hq m f 0 (by omega) (fun a' b h1 => absurd h1 (Nat.not_lt_zero a'))
end
set_option maxRecDepth 100000 in
set_option maxHeartbeats 4000000 in
/-- X10.sizeOf -/
theorem rso_l {s : Nat} {h : xh_H} (hs : s < 4096) (hq : a_rq a_tb h) : ∀ (n f i : Nat), i + n = 12 → xq f xi_X10_sizeOf xmi_X10_sizeOf 4 [(0, .int (nI s)), (1, .int (nI (cnt (fun i => s.testBit i) i))), (2, .int (nI i))] [] h (fun v h' => h = h' ∧ v = some (.int (nI (sz s)))) := by
  intro n
  induction n with
  | zero =>
    intro f i hn
    have e : i = 12 := by omega
    subst e
    refine xq_n 25 [] [] [.int (nI (sz s))] h [true] 60 hq rfl ⟨rfl, trivial⟩ (fun _ => ?_)
    exact xq_ret rfl rfl rfl ⟨rfl, rfl⟩
  | succ n ih =>
    intro f i hn
    have r := ih f (i + 1) (by omega)
    refine xq_n 4 [0, 1, 2] [(0, .int (nI s)), (1, .int (nI (cnt (fun i => s.testBit i) i) + ((nI s >>> (nI i &&& 31)) &&& Int32.ofInt 1))), (2, .int (nI i + Int32.ofInt 1))] [] h [false] 60 hq rfl ⟨nge_f (b := 12) (by omega) (by decide) (by omega), trivial⟩ (fun _ => ?_)
    rw [nI_1', nI_b0 (by omega) (by omega), nI_add]
    cases c : s.testBit i with
    | true =>
      rw [cnt_t (P := fun i => s.testBit i) c] at r
      exact r
    | false =>
      rw [cnt_f (P := fun i => s.testBit i) c] at r
      exact r
theorem rso_q {f s : Nat} {h : xh_H} (hs : s < 4096) (hq : a_rq a_tb h) : xq f xi_X10_sizeOf xmi_X10_sizeOf 0 [(0, .int (nI s))] [] h (fun v h' => h = h' ∧ v = some (.int (nI (sz s)))) := by
  refine xq_n 4 [0, 1, 2] [(0, .int (nI s)), (1, .int (Int32.ofInt 0)), (2, .int (Int32.ofInt 0))] [] h [] 60 hq rfl trivial (fun _ => ?_)
  exact rso_l hs hq 12 f 0 (by omega)
section
variable {mem sc : Nat} {FR RW : Nat → Int32} {d : Int32} {h : xh_H}
set_option maxRecDepth 100000 in
set_option maxHeartbeats 4000000 in
theorem rca_l {W : Nat → Bool} {m : Nat} (A : RA W m h) (m12 : m ≤ 12) (hq : a_rq a_tb h) : ∀ (n f s : Nat), s + n = 2 ^ m → xq f xi_X10_many xmi_X10_many 62 [(0, .ref 39), (2, .int (nI (cnt W s))), (3, .int (nI s))] [] h (fun v h' => v = some (.int (nI (cnt W (2 ^ m))))) := by
  intro n
  induction n with
  | zero =>
    intro f s sn
    have e : s = 2 ^ m := by omega
    subst e
    refine xq_n 89 [] [] [.int (nI (cnt W (2 ^ m)))] h [true] 60 hq rfl ⟨rgt A m12, trivial⟩ (fun _ => ?_)
    exact xq_ret rfl rfl rfl rfl
  | succ n ih =>
    intro f s sn
    have r := ih f (s + 1) (by omega)
    have hs : s < 2 ^ m := by omega
    have g := be' (rw0 A m12 hs)
    cases c : W s with
    | true =>
      rw [c] at g
      rw [cnt_t c] at r
      refine xq_n 62 [0, 2, 3] [(0, .ref 39), (2, .int (nI (cnt W s) + Int32.ofInt 1)), (3, .int (nI s + Int32.ofInt 1))] [] h [false, false] 60 hq rfl ⟨rgf A m12 hs, g, trivial⟩ (fun _ => ?_)
      rw [nI_1', nI_1']
      exact r
    | false =>
      rw [c] at g
      rw [cnt_f c] at r
      refine xq_n 62 [0, 2, 3] [(0, .ref 39), (2, .int (nI (cnt W s))), (3, .int (nI s + Int32.ofInt 1))] [] h [false, true] 60 hq rfl ⟨rgf A m12 hs, g, trivial⟩ (fun _ => ?_)
      rw [nI_1']
      exact r
set_option maxRecDepth 100000 in
set_option maxHeartbeats 4000000 in
theorem ma10_q {f : Nat} {x : Int32} (m12 : mem ≤ 12) (e4 : xg 0 h.2.1 39 4 = nI mem) (e33 : xg 0 h.2.1 39 33 = nI sc) (sc8 : sc ≤ 8) (e3 : xg 0 h.2.1 39 3 = d) (hF : ∀ k, k < sc → xg 0 h.2.1 51 k = FR k) (hT : ∀ k, k < sc → (xg 0 h.2.1 52 k).toInt ≤ 999) (hR : ∀ k s, k < sc → s < 2 ^ mem → ∃ b : Bool, RW (4096 * k + s) = bl b ∧ xg 0 h.2.1 44 (4096 * k + s) = bl b) (hq : a_rq a_tb h) : xq f xi_X10_many xmi_X10_many 0 [(0, .ref 39), (1, .int x)] [] h (fun v h' => v = some (.int (maA (cvB FR RW mem sc d) mem x))) := by
  refine xq_n 6 [0, 1] [(0, .ref 39), (1, .int x)] [.ref 39] (xh_ui h 39 0 (Int32.ofInt 0)) [] 60 hq rfl trivial (fun _ => ?_)
  have hq : a_rq a_tb (xh_ui h 39 0 (Int32.ofInt 0)) := a_rq_ui hq
  refine xq_run hq rfl rfl (ly_q m12 e4 e33 sc8 e3 hF hT hR hq) ?_
  rintro v h1 ⟨rfl, g1, A⟩
  have hq := fx_q g1 hq
  refine xq_n 12 [0, 1, 2] [(0, .ref 39), (1, .int x), (2, .int (Int32.ofInt 0))] [.int x] h1 [] 60 hq rfl trivial (fun _ => ?_)
  refine xq_sw rfl (fun hx => ?_) (fun i off ho hx => ?_)
  · rw [maA_o hx]
    show xq f _ _ 153 _ _ _ _
    refine xq_n 154 [] [] [.int (Int32.ofInt (-1))] h1 [] 60 hq rfl trivial (fun _ => ?_)
    exact xq_ret rfl rfl rfl rfl
  · match i, ho with
    | 0, rfl =>
      rw [maA_i (by decide) hx]
      show xq f _ _ 60 _ _ _ _
      refine xq_n 62 [0, 2, 3] [(0, .ref 39), (2, .int (Int32.ofInt 0)), (3, .int (Int32.ofInt 0))] [] h1 [] 60 hq rfl trivial (fun _ => ?_)
      exact rca_l A m12 hq (2 ^ mem) f 0 (by omega)
    | 1, rfl =>
      rw [maA_i (by decide) hx]
      have ex : x = nI 1 := Int32.toInt_inj.mp (by rw [hx]; rfl)
      subst ex
      show xq f _ _ 90 _ _ _ _
      refine xq_n 92 [] [] [.int (nI 1), .ref 39] h1 [] 60 hq rfl trivial (fun _ => ?_)
      refine xq_run hq rfl rfl (rco_q A m12 hq) ?_
      rintro v h2 ⟨rfl, rfl⟩
      exact xq_ret rfl rfl rfl rfl
    | 2, rfl =>
      rw [maA_i (by decide) hx]
      have ex : x = nI 2 := Int32.toInt_inj.mp (by rw [hx]; rfl)
      subst ex
      show xq f _ _ 90 _ _ _ _
      refine xq_n 92 [] [] [.int (nI 2), .ref 39] h1 [] 60 hq rfl trivial (fun _ => ?_)
      refine xq_run hq rfl rfl (rco_q A m12 hq) ?_
      rintro v h2 ⟨rfl, rfl⟩
      exact xq_ret rfl rfl rfl rfl
    | 3, rfl =>
      rw [maA_i (by decide) hx]
      show xq f _ _ 96 _ _ _ _
      refine xq_n 98 [] [] [.int (Int32.ofInt 0), .ref 39] h1 [] 60 hq rfl trivial (fun _ => ?_)
      refine xq_run hq rfl rfl (rwh_q A m12 hq) ?_
      rintro v h2 ⟨rfl, rfl⟩
      refine xq_run hq rfl rfl (rso_q (s := ndN (mi (cvB FR RW mem sc d) mem false) (2 ^ mem) mem) (nd_lt m12) hq) ?_
      rintro v h2 ⟨rfl, rfl⟩
      exact xq_ret rfl rfl rfl rfl
    | 4, rfl =>
      rw [maA_i (by decide) hx]
      show xq f _ _ 105 _ _ _ _
      refine xq_n 107 [] [] [.int (Int32.ofInt 1), .ref 39] h1 [] 60 hq rfl trivial (fun _ => ?_)
      refine xq_run hq rfl rfl (rwh_q A m12 hq) ?_
      rintro v h2 ⟨rfl, rfl⟩
      refine xq_run hq rfl rfl (rso_q (s := idN (mi (cvB FR RW mem sc d) mem false) (2 ^ mem) mem) (id_lt m12) hq) ?_
      rintro v h2 ⟨rfl, rfl⟩
      exact xq_ret rfl rfl rfl rfl
    | 5, rfl =>
      rw [maA_i (by decide) hx]
      show xq f _ _ 114 _ _ _ _
      refine xq_n 115 [] [] [.ref 39] h1 [] 60 hq rfl trivial (fun _ => ?_)
      refine xq_run hq rfl rfl (rpr_q A m12 hq) ?_
      rintro v h2 ⟨rfl, rfl⟩
      show xq f _ _ _ _ _ _ (fun v h' => v = some (.int (bl (aln (prP (cvB FR RW mem sc d) mem) (2 ^ mem)))))
      cases aln (prP (cvB FR RW mem sc d) mem) (2 ^ mem) with
      | false =>
        refine xq_n 126 [] [] [.int (Int32.ofInt 0)] h1 [true] 60 hq rfl ⟨rfl, trivial⟩ (fun _ => ?_)
        exact xq_ret rfl rfl rfl rfl
      | true =>
        refine xq_n 126 [] [] [.int (Int32.ofInt 1)] h1 [false] 60 hq rfl ⟨rfl, trivial⟩ (fun _ => ?_)
        exact xq_ret rfl rfl rfl rfl
    | 6, rfl =>
      rw [maA_i (by decide) hx]
      show xq f _ _ 127 _ _ _ _
      refine xq_n 128 [] [] [.ref 39] h1 [] 60 hq rfl trivial (fun _ => ?_)
      refine xq_run hq rfl rfl (rstr_q A m12 hq) ?_
      rintro v h2 ⟨rfl, rfl⟩
      show xq f _ _ _ _ _ _ (fun v h' => v = some (.int (bl (aln (sgP (cvB FR RW mem sc d) mem) (2 ^ mem)))))
      cases aln (sgP (cvB FR RW mem sc d) mem) (2 ^ mem) with
      | false =>
        refine xq_n 139 [] [] [.int (Int32.ofInt 0)] h1 [true] 60 hq rfl ⟨rfl, trivial⟩ (fun _ => ?_)
        exact xq_ret rfl rfl rfl rfl
      | true =>
        refine xq_n 139 [] [] [.int (Int32.ofInt 1)] h1 [false] 60 hq rfl ⟨rfl, trivial⟩ (fun _ => ?_)
        exact xq_ret rfl rfl rfl rfl
    | 7, rfl =>
      rw [maA_i (by decide) hx]
      show xq f _ _ 140 _ _ _ _
      refine xq_n 141 [] [] [.ref 39] h1 [] 60 hq rfl trivial (fun _ => ?_)
      refine xq_run hq rfl rfl (rln_q A m12 hq) ?_
      rintro v h2 ⟨rfl, rfl⟩
      show xq f _ _ _ _ _ _ (fun v h' => v = some (.int (bl (lnd (cvB FR RW mem sc d) mem))))
      cases lnd (cvB FR RW mem sc d) mem with
      | false =>
        refine xq_n 152 [] [] [.int (Int32.ofInt 0)] h1 [true] 60 hq rfl ⟨rfl, trivial⟩ (fun _ => ?_)
        exact xq_ret rfl rfl rfl rfl
      | true =>
        refine xq_n 152 [] [] [.int (Int32.ofInt 1)] h1 [false] 60 hq rfl ⟨rfl, trivial⟩ (fun _ => ?_)
        exact xq_ret rfl rfl rfl rfl
    | n + 8, ho => cases ho
end
end XMR
end
section
section XSA
/-- the j-th of them below n -/
def sl (P : Nat → Bool) (N j : Nat) : Nat → Int32
  | 0 => Int32.ofInt (-1)
  | n + 1 => if qp P N n = true ∧ cnt (qp P N) n = j then nI (n % N) else sl P N j n
theorem sl_u {P : Nat → Bool} {N j p : Nat} (h : qp P N p = true) (e : cnt (qp P N) p = j) : ∀ n, p < n → sl P N j n = nI (p % N) := by
  intro n
  induction n with
  | zero => intro h; omega
  | succ n ih =>
    intro hn
    show (if _ then _ else _) = _
    by_cases z : p = n
    · rw [← z, if_pos ⟨h, e⟩]
    · rw [if_neg (fun y => ?_), ih (by omega)]
      have := cnt_lt h (show p < n by omega)
      omega
theorem sl_n {P : Nat → Bool} {N j : Nat} : ∀ n, cnt (qp P N) n ≤ j → sl P N j n = Int32.ofInt (-1) := by
  intro n
  induction n with
  | zero => intro _; rfl
  | succ n ih =>
    intro h
    have m := cnt_m (P := qp P N) (show n ≤ n + 1 by omega)
    show (if _ then _ else _) = _
    rw [if_neg (fun y => ?_), ih (by omega)]
    rw [cnt_t y.1] at h
    omega
theorem sz_m {m s : Nat} (m12 : m ≤ 12) (hs : s < 2 ^ m) : sz s ≤ m := by
  unfold sz
  rw [show (12 : Nat) = m + (12 - m) by omega, cnt_ad, cnt_c (P' := fun _ => false) (12 - m) (fun k _ => ?_)]
  · have z : ∀ n, cnt (fun _ => false) n = 0 := fun n => by
      induction n with
      | zero => rfl
      | succ n ih => rw [cnt_f rfl]; exact ih
    rw [z]
    exact cnt_le m
  · exact Nat.testBit_lt_two_pow (Nat.lt_of_lt_of_le hs (Nat.pow_le_pow_right (by decide) (by omega)))
theorem cum_hi {P : Nat → Bool} {m : Nat} (m12 : m ≤ 12) : ∀ j, m + 1 ≤ j → cum P (2 ^ m) j = cum P (2 ^ m) (m + 1) := by
  intro j
  induction j with
  | zero => intro h; omega
  | succ j ih =>
    intro h
    by_cases z : j = m
    · rw [z]
    · show cum P (2 ^ m) j + cnt (qk P j) (2 ^ m) = _
      rw [ih (by omega), cnt_c (P' := fun _ => false) (2 ^ m) (fun k hk' => by
        have := sz_m m12 hk'
        unfold qk
        rw [decide_eq_false (by omega), Bool.and_false])]
      have z : ∀ n, cnt (fun _ => false) n = 0 := fun n => by
        induction n with
        | zero => rfl
        | succ n ih => rw [cnt_f rfl]; exact ih
      rw [z]
      rfl
theorem cq_tot {P : Nat → Bool} {m : Nat} (m12 : m ≤ 12) : cnt (qp P (2 ^ m)) (2 ^ m * (m + 1)) = cnt P (2 ^ m) := by
  rw [cq_k, ← cum_hi m12 13 (by omega), cum_13]
/-- what setAt answers -/
def seV (W : Nat → Bool) (m : Nat) (y : Int32) : Nat → Int32
  | 0 => if y.toInt < 0 then Int32.ofInt (-1) else sl (mi W m false) (2 ^ m) y.toInt.toNat (2 ^ m * (m + 1))
  | 1 => if y.toInt < 0 then Int32.ofInt (-1) else sl (mi W m true) (2 ^ m) y.toInt.toNat (2 ^ m * (m + 1))
  | 2 => cond (xe_c .ne y 0) (Int32.ofInt (-1)) (nI (ndN (mi W m false) (2 ^ m) m))
  | _ => cond (xe_c .ne y 0) (Int32.ofInt (-1)) (nI (idN (mi W m false) (2 ^ m) m))
def seA (W : Nat → Bool) (m : Nat) (x y : Int32) : Int32 := if x.toInt < 1 ∨ 4 < x.toInt then Int32.ofInt (-1) else seV W m y (x.toInt - 1).toNat
theorem seA_o {W : Nat → Bool} {m : Nat} {x y : Int32} (h : x.toInt < 1 ∨ 4 < x.toInt) : seA W m x y = Int32.ofInt (-1) := if_pos h
theorem seA_i {W : Nat → Bool} {m : Nat} {x y : Int32} {i : Nat} (i4 : i < 4) (h : x.toInt = 1 + (i : Int)) : seA W m x y = seV W m y i := by
  unfold seA
  rw [if_neg (by omega), show (x.toInt - 1).toNat = i by omega]
/-- the row's place is the order's -/
theorem row_sl {W : Nat → Bool} {m c j : Nat} {hd : Bool} {h : xh_H} (m12 : m ≤ 12) (M : Wm W m) (R : rwQ (mi W m hd) (2 ^ m) c h) (hj : j < cnt (mi W m hd) (2 ^ m)) : xg 0 h.2.1 c j = sl (mi W m hd) (2 ^ m) j (2 ^ m * (m + 1)) := by
  obtain ⟨t, t1, t2, t3, t4⟩ := (rw_all m12 M R).2 j hj
  rw [rk_q t1] at t3
  have s1 := sz_m m12 t1
  have q1 : qp (mi W m hd) (2 ^ m) (2 ^ m * sz t + t) = true := by rw [qp_k t1]; exact qk_s t2
  have lt : 2 ^ m * sz t + t < 2 ^ m * (m + 1) := by
    have a : 2 ^ m * (sz t + 1) ≤ 2 ^ m * (m + 1) := Nat.mul_le_mul_left _ (by omega)
    rw [Nat.mul_succ] at a
    omega
  rw [t4, sl_u q1 t3 _ lt, Nat.mul_add_mod, Nat.mod_eq_of_lt t1]
section
variable {mem sc : Nat} {d : Int32} {h : xh_H}
set_option maxRecDepth 100000 in
set_option maxHeartbeats 4000000 in
theorem sa9_q {f : Nat} {x y : Int32} (hi : a_inv a_tb h) (hn : 72 ≤ h.1.length) (e9 : xg 0 h.2.1 0 9 = nI mem) (m1 : 1 ≤ mem) (m12 : mem ≤ 12) (e8 : xg 0 h.2.1 0 8 = nI sc) (sc8 : sc ≤ 8) (e10 : xg 0 h.2.1 0 10 = d) (si : SI h) (pi : PI h) (M : Wm (cvB (fun k => xg 0 h.2.1 51 k) (fun k => xg 0 h.2.1 44 k) mem sc d) mem) : xq f xi_X9_setAt xmi_X9_setAt 0 [(0, .ref 0), (1, .int x), (2, .int y)] [] h (fun v h' => v = some (.int (seA (cvB (fun k => xg 0 h.2.1 51 k) (fun k => xg 0 h.2.1 44 k) mem sc d) mem x y)) ∧ PI h') := by
  have hq := a_rq_of hi.1 hn
  have p12 : 2 ^ mem ≤ 4096 := show 2 ^ mem ≤ 2 ^ 12 from Nat.pow_le_pow_right (by decide) m12
  refine xq_n 1 [1, 2] [(1, .int x), (2, .int y)] [.ref 0] h [] 60 hq rfl trivial (fun _ => ?_)
  refine xq_run hq rfl rfl (pt9_q hi hn e9 m1 m12 e8 sc8 e10 si pi) ?_
  rintro v h1 ⟨rfl, Y, PP, q, r, A, P⟩
  have hq1 := Yf_q hi hn Y
  obtain ⟨n1, n2⟩ := nd_e m12 M P
  refine xq_n 6 [2, 3] [(2, .int y), (3, .ref 14)] [.int x] h1 [] 60 hq1 rfl trivial (fun _ => ?_)
  refine xq_sw rfl (fun hx => ?_) (fun i off ho hx => ?_)
  · rw [seA_o hx]
    show xq f _ _ 108 _ _ _ _
    refine xq_n 109 [] [] [.int (Int32.ofInt (-1))] h1 [] 60 hq1 rfl trivial (fun _ => ?_)
    exact xq_ret rfl rfl rfl ⟨rfl, PP⟩
  · match i, ho with
    | 0, rfl =>
      rw [seA_i (by decide) hx]
      show xq f _ _ 36 _ _ _ (fun v h' => v = some (.int (if y.toInt < 0 then Int32.ofInt (-1) else sl (mi (cvB (fun k => xg 0 h.2.1 51 k) (fun k => xg 0 h.2.1 44 k) mem sc d) mem false) (2 ^ mem) y.toInt.toNat (2 ^ mem * (mem + 1)))) ∧ PI h')
      cases c1 : xe_c .lt y 0 with
      | true =>
        have b1 : y.toInt < (0 : Int) := a_ce c1
        refine xq_n 58 [] [] [.int (Int32.ofInt (-1))] h1 [true] 60 hq1 rfl ⟨c1, trivial⟩ (fun _ => ?_)
        exact xq_ret rfl rfl rfl ⟨by rw [if_pos b1], PP⟩
      | false =>
        have b1 : (0 : Int) ≤ y.toInt := a_ce (a_neg_ok c1)
        rw [if_neg (by omega)]
        have eL := (P.2.2.1.1).trans (congrArg nI (lcn_e (hd := false) m12 M))
        have cl := mi_924 (hd := false) m12 M
        have eLi : (xg 0 h1.2.1 14 9).toInt = ((cnt (mi (cvB (fun k => xg 0 h.2.1 51 k) (fun k => xg 0 h.2.1 44 k) mem sc d) mem false) (2 ^ mem) : Nat) : Int) := by rw [eL, nI_toInt (by omega)]
        cases c2 : xe_c .ge y (xg 0 h1.2.1 14 9) with
        | true =>
          have b2 : (xg 0 h1.2.1 14 9).toInt ≤ y.toInt := a_ce c2
          refine xq_n 58 [] [] [.int (Int32.ofInt (-1))] h1 [false, true] 60 hq1 rfl ⟨c1, c2, trivial⟩ (fun _ => ?_)
          exact xq_ret rfl rfl rfl ⟨by rw [sl_n _ (by rw [cq_tot m12]; omega)], PP⟩
        | false =>
          have b2 : y.toInt < (xg 0 h1.2.1 14 9).toInt := a_ce (a_neg_ok c2)
          refine xq_n 58 [] [] [.int (xg 0 h1.2.1 15 y.toNatClampNeg)] h1 [false, false] 60 hq1 rfl ⟨c1, c2, trivial⟩ (fun _ => ?_)
          exact xq_ret rfl rfl rfl ⟨by rw [show y.toNatClampNeg = y.toInt.toNat from rfl, row_sl m12 M P.2.2.1.2 (by omega)], PP⟩
    | 1, rfl =>
      rw [seA_i (by decide) hx]
      show xq f _ _ 59 _ _ _ (fun v h' => v = some (.int (if y.toInt < 0 then Int32.ofInt (-1) else sl (mi (cvB (fun k => xg 0 h.2.1 51 k) (fun k => xg 0 h.2.1 44 k) mem sc d) mem true) (2 ^ mem) y.toInt.toNat (2 ^ mem * (mem + 1)))) ∧ PI h')
      cases c1 : xe_c .lt y 0 with
      | true =>
        have b1 : y.toInt < (0 : Int) := a_ce c1
        refine xq_n 81 [] [] [.int (Int32.ofInt (-1))] h1 [true] 60 hq1 rfl ⟨c1, trivial⟩ (fun _ => ?_)
        exact xq_ret rfl rfl rfl ⟨by rw [if_pos b1], PP⟩
      | false =>
        have b1 : (0 : Int) ≤ y.toInt := a_ce (a_neg_ok c1)
        rw [if_neg (by omega)]
        have eL := (P.2.2.2.1.1).trans (congrArg nI (lcn_e (hd := true) m12 M))
        have cl := mi_924 (hd := true) m12 M
        have eLi : (xg 0 h1.2.1 14 10).toInt = ((cnt (mi (cvB (fun k => xg 0 h.2.1 51 k) (fun k => xg 0 h.2.1 44 k) mem sc d) mem true) (2 ^ mem) : Nat) : Int) := by rw [eL, nI_toInt (by omega)]
        cases c2 : xe_c .ge y (xg 0 h1.2.1 14 10) with
        | true =>
          have b2 : (xg 0 h1.2.1 14 10).toInt ≤ y.toInt := a_ce c2
          refine xq_n 81 [] [] [.int (Int32.ofInt (-1))] h1 [false, true] 60 hq1 rfl ⟨c1, c2, trivial⟩ (fun _ => ?_)
          exact xq_ret rfl rfl rfl ⟨by rw [sl_n _ (by rw [cq_tot m12]; omega)], PP⟩
        | false =>
          have b2 : y.toInt < (xg 0 h1.2.1 14 10).toInt := a_ce (a_neg_ok c2)
          refine xq_n 81 [] [] [.int (xg 0 h1.2.1 16 y.toNatClampNeg)] h1 [false, false] 60 hq1 rfl ⟨c1, c2, trivial⟩ (fun _ => ?_)
          exact xq_ret rfl rfl rfl ⟨by rw [show y.toNatClampNeg = y.toInt.toNat from rfl, row_sl m12 M P.2.2.2.1.2 (by omega)], PP⟩
    | 2, rfl =>
      rw [seA_i (by decide) hx]
      show xq f _ _ 82 _ _ _ (fun v h' => v = some (.int (cond (xe_c .ne y 0) (Int32.ofInt (-1)) (nI (ndN (mi (cvB (fun k => xg 0 h.2.1 51 k) (fun k => xg 0 h.2.1 44 k) mem sc d) mem false) (2 ^ mem) mem)))) ∧ PI h')
      cases c1 : xe_c .ne y 0 with
      | true =>
        refine xq_n 94 [] [] [.int (Int32.ofInt (-1))] h1 [true] 60 hq1 rfl ⟨c1, trivial⟩ (fun _ => ?_)
        exact xq_ret rfl rfl rfl ⟨rfl, PP⟩
      | false =>
        refine xq_n 94 [] [] [.int (xg 0 h1.2.1 14 11)] h1 [false] 60 hq1 rfl ⟨c1, trivial⟩ (fun _ => ?_)
        exact xq_ret rfl rfl rfl ⟨by rw [n1]; rfl, PP⟩
    | 3, rfl =>
      rw [seA_i (by decide) hx]
      show xq f _ _ 95 _ _ _ (fun v h' => v = some (.int (cond (xe_c .ne y 0) (Int32.ofInt (-1)) (nI (idN (mi (cvB (fun k => xg 0 h.2.1 51 k) (fun k => xg 0 h.2.1 44 k) mem sc d) mem false) (2 ^ mem) mem)))) ∧ PI h')
      cases c1 : xe_c .ne y 0 with
      | true =>
        refine xq_n 107 [] [] [.int (Int32.ofInt (-1))] h1 [true] 60 hq1 rfl ⟨c1, trivial⟩ (fun _ => ?_)
        exact xq_ret rfl rfl rfl ⟨rfl, PP⟩
      | false =>
        refine xq_n 107 [] [] [.int (xg 0 h1.2.1 14 12)] h1 [false] 60 hq1 rfl ⟨c1, trivial⟩ (fun _ => ?_)
        exact xq_ret rfl rfl rfl ⟨by rw [n2]; rfl, PP⟩
    | n + 4, ho => cases ho
end
section
variable {W : Nat → Bool} {m j : Nat} {x : Int32} {h : xh_H}
set_option maxRecDepth 100000 in
set_option maxHeartbeats 4000000 in
theorem rsa_in (A : RA W m h) (m12 : m ≤ 12) (j31 : j < 2 ^ 31) (hq : a_rq a_tb h) {i : Nat} (hi : i ≤ m) (K : ∀ f, cnt (qp (mi W m (xe_c .ne x (Int32.ofInt 1))) (2 ^ m)) (2 ^ m * (i + 1)) ≤ j → xq f xi_X10_setAt xmi_X10_setAt 57 [(0, .ref 39), (1, .int x), (3, .int (nI (j - cnt (qp (mi W m (xe_c .ne x (Int32.ofInt 1))) (2 ^ m)) (2 ^ m * (i + 1))))), (4, .int (nI (i + 1)))] [] h (fun v h' => v = some (.int (sl (mi W m (xe_c .ne x (Int32.ofInt 1))) (2 ^ m) j (2 ^ m * (m + 1)))))) : ∀ (n f s : Nat), s + n = 2 ^ m → cnt (qp (mi W m (xe_c .ne x (Int32.ofInt 1))) (2 ^ m)) (2 ^ m * i + s) ≤ j → xq f xi_X10_setAt xmi_X10_setAt 69 [(0, .ref 39), (1, .int x), (3, .int (nI (j - cnt (qp (mi W m (xe_c .ne x (Int32.ofInt 1))) (2 ^ m)) (2 ^ m * i + s)))), (4, .int (nI i)), (5, .int (nI s))] [] h (fun v h' => v = some (.int (sl (mi W m (xe_c .ne x (Int32.ofInt 1))) (2 ^ m) j (2 ^ m * (m + 1))))) := by
  have p12 : 2 ^ m ≤ 4096 := show 2 ^ m ≤ 2 ^ 12 from Nat.pow_le_pow_right (by decide) m12
  intro n
  induction n with
  | zero =>
    intro f s sn w
    have e : s = 2 ^ m := by omega
    subst e
    refine xq_n 57 [0, 1, 3, 4] [(0, .ref 39), (1, .int x), (3, .int (nI (j - cnt (qp (mi W m (xe_c .ne x (Int32.ofInt 1))) (2 ^ m)) (2 ^ m * i + 2 ^ m)))), (4, .int (nI i + Int32.ofInt 1))] [] h [true] 60 hq rfl ⟨rgt A m12, trivial⟩ (fun _ => ?_)
    rw [nI_1', ← Nat.mul_succ]
    exact K f (by rw [← Nat.mul_succ] at w; exact w)
  | succ n ih =>
    intro f s sn w
    have hs : s < 2 ^ m := by omega
    have r := ih f (s + 1) (by omega)
    rw [show 2 ^ m * i + (s + 1) = 2 ^ m * i + s + 1 from rfl] at r
    have eq := qp_k (P := (mi W m (xe_c .ne x (Int32.ofInt 1)))) (k := i) hs
    refine xq_n 80 [0, 1, 3, 4, 5] [(0, .ref 39), (1, .int x), (3, .int (nI (j - cnt (qp (mi W m (xe_c .ne x (Int32.ofInt 1))) (2 ^ m)) (2 ^ m * i + s)))), (4, .int (nI i)), (5, .int (nI s))] [.int (nI s)] h [false] 60 hq rfl ⟨rgf A m12 hs, trivial⟩ (fun _ => ?_)
    refine xq_run hq rfl rfl (rso_q (by omega) hq) ?_
    rintro v h1 ⟨rfl, rfl⟩
    have sl' := sz_le (s := s)
    by_cases z : sz s = i
    · refine xq_n 92 [0, 1, 3, 4, 5] [(0, .ref 39), (1, .int x), (3, .int (nI (j - cnt (qp (mi W m (xe_c .ne x (Int32.ofInt 1))) (2 ^ m)) (2 ^ m * i + s)))), (4, .int (nI i)), (5, .int (nI s))] [.int x, .int (nI s), .ref 39] h [false] 60 hq rfl ⟨nne_f (by omega) (by omega) z, trivial⟩ (fun _ => ?_)
      refine xq_run hq rfl rfl (rik_q A m12 hs hq) ?_
      rintro v h1 ⟨rfl, rfl⟩
      cases c : (mi W m (xe_c .ne x (Int32.ofInt 1))) s with
      | false =>
        have q0 : qp (mi W m (xe_c .ne x (Int32.ofInt 1))) (2 ^ m) (2 ^ m * i + s) = false := by rw [eq]; unfold qk; rw [c]; rfl
        rw [cnt_f q0] at r
        refine xq_n 69 [0, 1, 3, 4, 5] [(0, .ref 39), (1, .int x), (3, .int (nI (j - cnt (qp (mi W m (xe_c .ne x (Int32.ofInt 1))) (2 ^ m)) (2 ^ m * i + s)))), (4, .int (nI i)), (5, .int (nI s + Int32.ofInt 1))] [] h [false] 60 hq rfl ⟨rfl, trivial⟩ (fun _ => ?_)
        rw [nI_1']
        exact r w
      | true =>
        have q1 : qp (mi W m (xe_c .ne x (Int32.ofInt 1))) (2 ^ m) (2 ^ m * i + s) = true := by rw [eq]; unfold qk; rw [c, decide_eq_true z]; rfl
        rw [cnt_t q1] at r
        by_cases y : cnt (qp (mi W m (xe_c .ne x (Int32.ofInt 1))) (2 ^ m)) (2 ^ m * i + s) = j
        · have lt : 2 ^ m * i + s < 2 ^ m * (m + 1) := by
            have a : 2 ^ m * (i + 1) ≤ 2 ^ m * (m + 1) := Nat.mul_le_mul_left _ (by omega)
            rw [Nat.mul_succ] at a
            omega
          refine xq_n 107 [] [] [.int (nI s)] h [true, false] 60 hq rfl ⟨rfl, nne_f (b := 0) (by omega) (by decide) (by omega), trivial⟩ (fun _ => ?_)
          exact xq_ret rfl rfl rfl (by rw [sl_u q1 y _ lt, Nat.mul_add_mod, Nat.mod_eq_of_lt hs])
        · refine xq_n 69 [0, 1, 3, 4, 5] [(0, .ref 39), (1, .int x), (3, .int (nI (j - cnt (qp (mi W m (xe_c .ne x (Int32.ofInt 1))) (2 ^ m)) (2 ^ m * i + s)) + Int32.ofInt (-1))), (4, .int (nI i)), (5, .int (nI s + Int32.ofInt 1))] [] h [true, true] 60 hq rfl ⟨rfl, nne_t (b := 0) (by omega) (by decide) (by omega), trivial⟩ (fun _ => ?_)
          rw [nI_1', show j - cnt (qp (mi W m (xe_c .ne x (Int32.ofInt 1))) (2 ^ m)) (2 ^ m * i + s) = (j - (cnt (qp (mi W m (xe_c .ne x (Int32.ofInt 1))) (2 ^ m)) (2 ^ m * i + s) + 1)) + 1 by omega, nI_dec]
          exact r (by omega)
    · have q0 : qp (mi W m (xe_c .ne x (Int32.ofInt 1))) (2 ^ m) (2 ^ m * i + s) = false := by rw [eq]; unfold qk; rw [decide_eq_false z, Bool.and_false]
      rw [cnt_f q0] at r
      refine xq_n 69 [0, 1, 3, 4, 5] [(0, .ref 39), (1, .int x), (3, .int (nI (j - cnt (qp (mi W m (xe_c .ne x (Int32.ofInt 1))) (2 ^ m)) (2 ^ m * i + s)))), (4, .int (nI i)), (5, .int (nI s + Int32.ofInt 1))] [] h [true] 60 hq rfl ⟨nne_t (by omega) (by omega) z, trivial⟩ (fun _ => ?_)
      rw [nI_1']
      exact r w
set_option maxRecDepth 100000 in
set_option maxHeartbeats 4000000 in
theorem rsa_l (A : RA W m h) (m12 : m ≤ 12) (j31 : j < 2 ^ 31) (hq : a_rq a_tb h) : ∀ (n f i : Nat), i + n = m + 1 → cnt (qp (mi W m (xe_c .ne x (Int32.ofInt 1))) (2 ^ m)) (2 ^ m * i) ≤ j → xq f xi_X10_setAt xmi_X10_setAt 57 [(0, .ref 39), (1, .int x), (3, .int (nI (j - cnt (qp (mi W m (xe_c .ne x (Int32.ofInt 1))) (2 ^ m)) (2 ^ m * i)))), (4, .int (nI i))] [] h (fun v h' => v = some (.int (sl (mi W m (xe_c .ne x (Int32.ofInt 1))) (2 ^ m) j (2 ^ m * (m + 1))))) := by
  intro n
  induction n with
  | zero =>
    intro f i hn w
    have e : i = m + 1 := by omega
    subst e
    refine xq_n 124 [] [] [.int (Int32.ofInt (-1))] h [true] 60 hq rfl ⟨(show xe_c .gt (nI (m + 1)) (xg 0 h.2.1 39 4) = true by rw [A.1]; exact xgt_t (by rw [nI_toInt (by omega), nI_toInt (by omega)]; omega)), trivial⟩ (fun _ => ?_)
    exact xq_ret rfl rfl rfl (by rw [sl_n _ w])
  | succ n ih =>
    intro f i hn w
    refine xq_n 69 [0, 1, 3, 4, 5] [(0, .ref 39), (1, .int x), (3, .int (nI (j - cnt (qp (mi W m (xe_c .ne x (Int32.ofInt 1))) (2 ^ m)) (2 ^ m * i)))), (4, .int (nI i)), (5, .int (Int32.ofInt 0))] [] h [false] 60 hq rfl ⟨(show xe_c .gt (nI i) (xg 0 h.2.1 39 4) = false by rw [A.1]; exact xgt_f (by rw [nI_toInt (by omega), nI_toInt (by omega)]; omega)), trivial⟩ (fun _ => ?_)
    exact rsa_in A m12 j31 hq (by omega) (fun f w => ih f (i + 1) (by omega) w) (2 ^ m) f 0 (by omega) w
end
section
variable {mem sc : Nat} {FR RW : Nat → Int32} {d : Int32} {h : xh_H}
set_option maxRecDepth 100000 in
set_option maxHeartbeats 4000000 in
theorem sa10_q {f : Nat} {x y : Int32} (m12 : mem ≤ 12) (e4 : xg 0 h.2.1 39 4 = nI mem) (e33 : xg 0 h.2.1 39 33 = nI sc) (sc8 : sc ≤ 8) (e3 : xg 0 h.2.1 39 3 = d) (hF : ∀ k, k < sc → xg 0 h.2.1 51 k = FR k) (hT : ∀ k, k < sc → (xg 0 h.2.1 52 k).toInt ≤ 999) (hR : ∀ k s, k < sc → s < 2 ^ mem → ∃ b : Bool, RW (4096 * k + s) = bl b ∧ xg 0 h.2.1 44 (4096 * k + s) = bl b) (hq : a_rq a_tb h) : xq f xi_X10_setAt xmi_X10_setAt 0 [(0, .ref 39), (1, .int x), (2, .int y)] [] h (fun v h' => v = some (.int (seA (cvB FR RW mem sc d) mem x y))) := by
  refine xq_n 8 [0, 1, 2] [(0, .ref 39), (1, .int x), (2, .int y)] [.int (Int32.ofInt 4), .int (Int32.ofInt 1), .int x] (xh_ui h 39 0 (Int32.ofInt 0)) [] 60 hq rfl trivial (fun _ => ?_)
  have hq : a_rq a_tb (xh_ui h 39 0 (Int32.ofInt 0)) := a_rq_ui hq
  refine xq_run hq rfl rfl (isIn_q hq) ?_
  rintro v h2 ⟨rfl, rfl⟩
  by_cases z : (Int32.ofInt 1).toInt ≤ x.toInt ∧ x.toInt ≤ (Int32.ofInt 4).toInt
  · have z' : (1 : Int) ≤ x.toInt ∧ x.toInt ≤ (4 : Int) := z
    rw [decide_eq_true z]
    cases c2 : xe_c .ge y 0 with
    | false =>
      have b2 : y.toInt < (0 : Int) := a_ce (a_neg_ok c2)
      refine xq_n 19 [] [] [.int (Int32.ofInt (-1))] (xh_ui h 39 0 (Int32.ofInt 0)) [false, false] 60 hq rfl ⟨rfl, c2, trivial⟩ (fun _ => ?_)
      refine xq_ret rfl rfl rfl ?_
      have yn : xe_c .ne y 0 = true := by
        cases c3 : xe_c .ne y 0 with
        | true => rfl
        | false =>
          have : y.toInt = (0 : Int) := a_ce (a_neg_ok c3)
          omega
      obtain ⟨i, i4, hx⟩ : ∃ i : Nat, i < 4 ∧ x.toInt = 1 + (i : Int) := ⟨(x.toInt - 1).toNat, by omega, by omega⟩
      rw [seA_i i4 hx]
      match i, i4 with
      | 0, _ => show _ = some (Value.int (if _ then _ else _)); rw [if_pos b2]
      | 1, _ => show _ = some (Value.int (if _ then _ else _)); rw [if_pos b2]
      | 2, _ => show _ = some (Value.int (cond _ _ _)); rw [yn]; rfl
      | 3, _ => show _ = some (Value.int (cond _ _ _)); rw [yn]; rfl
    | true =>
      have b2 : (0 : Int) ≤ y.toInt := a_ce c2
      have y31 := (ar_rng y).2
      have yN : nI y.toInt.toNat = y := Int32.toInt_inj.mp (by rw [nI_toInt (by omega)]; omega)
      refine xq_n 21 [0, 1, 2] [(0, .ref 39), (1, .int x), (2, .int y)] [.ref 39] (xh_ui h 39 0 (Int32.ofInt 0)) [false, true] 60 hq rfl ⟨rfl, c2, trivial⟩ (fun _ => ?_)
      refine xq_run hq rfl rfl (ly_q m12 e4 e33 sc8 e3 hF hT hR hq) ?_
      rintro v h1 ⟨rfl, g1, A⟩
      have hq := fx_q g1 hq
      obtain ⟨i, i4, hx⟩ : ∃ i : Nat, i < 4 ∧ x.toInt = 1 + (i : Int) := ⟨(x.toInt - 1).toNat, by omega, by omega⟩
      match i, hx, i4 with
      | 0, hx, _ =>
        have ex : x = nI 1 := Int32.toInt_inj.mp (by rw [hx]; rfl)
        subst ex
        rw [seA_i (i := 0) (by decide) hx]
        show xq f _ _ _ _ _ _ (fun v h' => v = some (.int (if y.toInt < 0 then Int32.ofInt (-1) else sl (mi (cvB FR RW mem sc d) mem false) (2 ^ mem) y.toInt.toNat (2 ^ mem * (mem + 1)))))
        rw [if_neg (by omega)]
        refine xq_n 57 [0, 1, 3, 4] [(0, .ref 39), (1, .int (nI 1)), (3, .int y), (4, .int (Int32.ofInt 0))] [] h1 [true] 60 hq rfl ⟨rfl, trivial⟩ (fun _ => ?_)
        have r := rsa_l (x := nI 1) (j := y.toInt.toNat) A m12 (by omega) hq (mem + 1) f 0 (by omega) (Nat.zero_le _)
        rw [show nI (y.toInt.toNat - cnt (qp (mi (cvB FR RW mem sc d) mem (xe_c .ne (nI 1) (Int32.ofInt 1))) (2 ^ mem)) (2 ^ mem * 0)) = y from yN] at r
        exact r
      | 1, hx, _ =>
        have ex : x = nI 2 := Int32.toInt_inj.mp (by rw [hx]; rfl)
        subst ex
        rw [seA_i (i := 1) (by decide) hx]
        show xq f _ _ _ _ _ _ (fun v h' => v = some (.int (if y.toInt < 0 then Int32.ofInt (-1) else sl (mi (cvB FR RW mem sc d) mem true) (2 ^ mem) y.toInt.toNat (2 ^ mem * (mem + 1)))))
        rw [if_neg (by omega)]
        refine xq_n 57 [0, 1, 3, 4] [(0, .ref 39), (1, .int (nI 2)), (3, .int y), (4, .int (Int32.ofInt 0))] [] h1 [true] 60 hq rfl ⟨rfl, trivial⟩ (fun _ => ?_)
        have r := rsa_l (x := nI 2) (j := y.toInt.toNat) A m12 (by omega) hq (mem + 1) f 0 (by omega) (Nat.zero_le _)
        rw [show nI (y.toInt.toNat - cnt (qp (mi (cvB FR RW mem sc d) mem (xe_c .ne (nI 2) (Int32.ofInt 1))) (2 ^ mem)) (2 ^ mem * 0)) = y from yN] at r
        exact r
      | 2, hx, _ =>
        have ex : x = nI 3 := Int32.toInt_inj.mp (by rw [hx]; rfl)
        subst ex
        rw [seA_i (i := 2) (by decide) hx]
        show xq f _ _ _ _ _ _ (fun v h' => v = some (.int (cond (xe_c .ne y 0) (Int32.ofInt (-1)) (nI (ndN (mi (cvB FR RW mem sc d) mem false) (2 ^ mem) mem)))))
        cases c3 : xe_c .ne y 0 with
        | true =>
          refine xq_n 51 [] [] [.int (Int32.ofInt (-1))] h1 [false, true] 60 hq rfl ⟨rfl, c3, trivial⟩ (fun _ => ?_)
          exact xq_ret rfl rfl rfl rfl
        | false =>
          refine xq_n 44 [] [] [.int (Int32.ofInt 0), .ref 39] h1 [false, false, true] 60 hq rfl ⟨rfl, c3, rfl, trivial⟩ (fun _ => ?_)
          refine xq_run hq rfl rfl (rwh_q A m12 hq) ?_
          rintro v h2 ⟨rfl, rfl⟩
          refine xq_n 51 [] [] [.int (nI (ndN (mi (cvB FR RW mem sc d) mem false) (2 ^ mem) mem))] h1 [] 60 hq rfl trivial (fun _ => ?_)
          exact xq_ret rfl rfl rfl rfl
      | 3, hx, _ =>
        have ex : x = nI 4 := Int32.toInt_inj.mp (by rw [hx]; rfl)
        subst ex
        rw [seA_i (i := 3) (by decide) hx]
        show xq f _ _ _ _ _ _ (fun v h' => v = some (.int (cond (xe_c .ne y 0) (Int32.ofInt (-1)) (nI (idN (mi (cvB FR RW mem sc d) mem false) (2 ^ mem) mem)))))
        cases c3 : xe_c .ne y 0 with
        | true =>
          refine xq_n 51 [] [] [.int (Int32.ofInt (-1))] h1 [false, true] 60 hq rfl ⟨rfl, c3, trivial⟩ (fun _ => ?_)
          exact xq_ret rfl rfl rfl rfl
        | false =>
          refine xq_n 44 [] [] [.int (Int32.ofInt 1), .ref 39] h1 [false, false, false] 60 hq rfl ⟨rfl, c3, rfl, trivial⟩ (fun _ => ?_)
          refine xq_run hq rfl rfl (rwh_q A m12 hq) ?_
          rintro v h2 ⟨rfl, rfl⟩
          refine xq_n 51 [] [] [.int (nI (idN (mi (cvB FR RW mem sc d) mem false) (2 ^ mem) mem))] h1 [] 60 hq rfl trivial (fun _ => ?_)
          exact xq_ret rfl rfl rfl rfl
  · rw [decide_eq_false z]
    have z' : ¬ ((1 : Int) ≤ x.toInt ∧ x.toInt ≤ (4 : Int)) := z
    refine xq_n 19 [] [] [.int (Int32.ofInt (-1))] (xh_ui h 39 0 (Int32.ofInt 0)) [true] 60 hq rfl ⟨rfl, trivial⟩ (fun _ => ?_)
    exact xq_ret rfl rfl rfl (by rw [seA_o (by omega)])
end
end XSA
end
section
section XCV
def pwv (b : Int64) : Nat → Int64
  | 0 => 1
  | n + 1 => pwv b n * b
/-- how many, as a long -/
def cLg (P : Nat → Bool) : Nat → Int64
  | 0 => 0
  | n + 1 => if P n = true then cLg P n + 1 else cLg P n
def tA (x : Int32) (m i : Nat) : Int64 := pwv x.toInt64 i * pwv (10 - x).toInt64 (m - i)
def rs (W : Nat → Bool) (m : Nat) (x : Int32) : Nat → Int64
  | 0 => 0
  | s + 1 => if W s = true then rs W m x s + tA x m (sz s) else rs W m x s
def cs (c : Nat → Int64) (m : Nat) (x : Int32) : Nat → Int64
  | 0 => 0
  | i + 1 => cs c m x i + (c i * pwv x.toInt64 i) * pwv (10 - x).toInt64 (m - i)
theorem cs_0 {m : Nat} {x : Int32} : ∀ j, cs (fun _ => 0) m x j = 0 := by
  intro j
  induction j with
  | zero => rfl
  | succ j ih =>
    show cs (fun _ => 0) m x j + ((0 : Int64) * _) * _ = 0
    rw [ih, Int64.zero_mul, Int64.zero_mul]
    rfl
theorem cs_c {c c' : Nat → Int64} {m : Nat} {x : Int32} (e : ∀ i, c i = c' i) (j : Nat) : cs c m x j = cs c' m x j := by rw [show c = c' from funext e]
theorem cs_1 {c c' : Nat → Int64} {m k : Nat} {x : Int32} (e : ∀ i, c' i = if i = k then c i + 1 else c i) : ∀ j, cs c' m x j = if k < j then cs c m x j + tA x m k else cs c m x j := by
  intro j
  induction j with
  | zero => rw [if_neg (by omega)]; rfl
  | succ j ih =>
    show cs c' m x j + (c' j * _) * _ = _
    rw [ih, e j]
    show _ = if k < j + 1 then (cs c m x j + (c j * pwv x.toInt64 j) * pwv (10 - x).toInt64 (m - j)) + tA x m k else (cs c m x j + (c j * pwv x.toInt64 j) * pwv (10 - x).toInt64 (m - j))
    by_cases z : j = k
    · rw [if_pos z, if_neg (by omega), if_pos (by omega), Int64.add_mul, Int64.one_mul, Int64.add_mul, z]
      unfold tA
      rw [Int64.add_assoc]
    · rw [if_neg z]
      by_cases y : k < j
      · rw [if_pos y, if_pos (by omega), Int64.add_assoc, Int64.add_comm (tA x m k), ← Int64.add_assoc]
      · rw [if_neg y, if_neg (by omega)]
theorem cs_r {W : Nat → Bool} {m : Nat} {x : Int32} (m12 : m ≤ 12) : ∀ n, n ≤ 2 ^ m → cs (fun i => cLg (qk W i) n) m x (m + 1) = rs W m x n := by
  intro n
  induction n with
  | zero => intro _; exact cs_0 _
  | succ n ih =>
    intro h
    have s := sz_m m12 (show n < 2 ^ m by omega)
    have r := ih (by omega)
    show _ = if W n = true then rs W m x n + tA x m (sz n) else rs W m x n
    cases c : W n with
    | false =>
      rw [if_neg (by decide), ← r]
      exact cs_c (fun i => if_neg (by unfold qk; rw [c]; exact (fun z => by cases z))) _
    | true =>
      rw [if_pos rfl, ← r, cs_1 (c := fun i => cLg (qk W i) n) (k := sz n) (fun i => ?_), if_pos (by omega)]
      by_cases z : i = sz n
      · rw [if_pos z]; exact if_pos (by rw [z]; exact qk_s c)
      · rw [if_neg z]; exact if_neg (by unfold qk; rw [decide_eq_false (fun e => z e.symm), Bool.and_false]; decide)
set_option maxRecDepth 100000 in
set_option maxHeartbeats 4000000 in
/-- Powers.power -/
theorem pwc_l {x : Int32} {e : Nat} {h : xh_H} (e12 : e ≤ 12) (hq : a_rq a_tb h) : ∀ (n f i : Nat), i + n = e → xq f xi_X2_power xmi_X2_power 5 [(0, .int x), (1, .int (nI e)), (2, .long (pwv x.toInt64 i)), (4, .int (nI i))] [] h (fun v h' => h = h' ∧ v = some (.long (pwv x.toInt64 e))) := by
  intro n
  induction n with
  | zero =>
    intro f i hn
    have e0 : i = e := by omega
    subst e0
    refine xq_n 23 [] [] [.long (pwv x.toInt64 i)] h [true] 60 hq rfl ⟨nge_t (by omega) (by omega) (Nat.le_refl _), trivial⟩ (fun _ => ?_)
    exact xq_ret rfl rfl rfl ⟨rfl, rfl⟩
  | succ n ih =>
    intro f i hn
    refine xq_n 5 [0, 1, 2, 4] [(0, .int x), (1, .int (nI e)), (2, .long (pwv x.toInt64 i * x.toInt64)), (4, .int (nI i + Int32.ofInt 1))] [] h [false] 60 hq rfl ⟨nge_f (by omega) (by omega) (by omega), trivial⟩ (fun _ => ?_)
    rw [nI_1']
    exact ih f (i + 1) (by omega)
theorem pwc_q {f : Nat} {x : Int32} {e : Nat} {h : xh_H} (e12 : e ≤ 12) (hq : a_rq a_tb h) : xq f xi_X2_power xmi_X2_power 0 [(0, .int x), (1, .int (nI e))] [] h (fun v h' => h = h' ∧ v = some (.long (pwv x.toInt64 e))) := by
  refine xq_n 5 [0, 1, 2, 4] [(0, .int x), (1, .int (nI e)), (2, .long 1), (4, .int (Int32.ofInt 0))] [] h [] 60 hq rfl trivial (fun _ => ?_)
  exact pwc_l e12 hq e f 0 (by omega)
set_option maxRecDepth 100000 in
set_option maxHeartbeats 4000000 in
/-- X10.power -/
theorem pwr'_l {b : Int64} {e : Nat} {h : xh_H} (e12 : e ≤ 12) (hq : a_rq a_tb h) : ∀ (n f i : Nat), i + n = e → xq f xi_X10_power xmi_X10_power 5 [(0, .long b), (2, .int (nI e)), (3, .long (pwv b i)), (5, .int (nI i))] [] h (fun v h' => h = h' ∧ v = some (.long (pwv b e))) := by
  intro n
  induction n with
  | zero =>
    intro f i hn
    have e0 : i = e := by omega
    subst e0
    refine xq_n 22 [] [] [.long (pwv b i)] h [true] 60 hq rfl ⟨nge_t (by omega) (by omega) (Nat.le_refl _), trivial⟩ (fun _ => ?_)
    exact xq_ret rfl rfl rfl ⟨rfl, rfl⟩
  | succ n ih =>
    intro f i hn
    refine xq_n 5 [0, 2, 3, 5] [(0, .long b), (2, .int (nI e)), (3, .long (pwv b i * b)), (5, .int (nI i + Int32.ofInt 1))] [] h [false] 60 hq rfl ⟨nge_f (by omega) (by omega) (by omega), trivial⟩ (fun _ => ?_)
    rw [nI_1']
    exact ih f (i + 1) (by omega)
theorem pwr'_q {f : Nat} {b : Int64} {e : Nat} {h : xh_H} (e12 : e ≤ 12) (hq : a_rq a_tb h) : xq f xi_X10_power xmi_X10_power 0 [(0, .long b), (2, .int (nI e))] [] h (fun v h' => h = h' ∧ v = some (.long (pwv b e))) := by
  refine xq_n 5 [0, 2, 3, 5] [(0, .long b), (2, .int (nI e)), (3, .long 1), (5, .int (Int32.ofInt 0))] [] h [] 60 hq rfl trivial (fun _ => ?_)
  exact pwr'_l e12 hq e f 0 (by omega)
theorem LA_g {W : Nat → Bool} {m q r : Nat} {S L : Nat → Nat → Bool} {h h' : xh_H} (A : LA W m q r h) (g : fx S L h h') (e7 : S 14 7 = false) (e8 : S 14 8 = false) (hL : ∀ k, L r k = false) : LA W m q r h' := by
  obtain ⟨a1, a2, a3, a4, a5, a6, a7⟩ := A
  exact ⟨by rw [g.2.1]; exact a1, by rw [g.1]; exact a2, by rw [g.2.1]; exact a3, by rw [g.1]; exact a4, (fx_i g e7).trans a5, (fx_i g e8).trans a6, fun s hs => (hv_ee (fun k => g.2.2.2 r k (hL k))).trans (a7 s hs)⟩
theorem r20 {W : Nat → Bool} {m q r : Nat} {h : xh_H} (A : LA W m q r h) (hq : a_rq a_tb h) (k : Nat) : Lr 20 r k = false := nbeq_f (fun w => by
  have := A.2.2.2.1
  rw [w, hq.2.1 20 _ rfl] at this
  cases this)
section
variable {W : Nat → Bool} {m q r : Nat} {x : Int32} {hb : xh_H}
set_option maxRecDepth 100000 in
set_option maxHeartbeats 4000000 in
theorem cv_C (m12 : m ≤ 12) (e7 : xg 0 hb.2.1 14 7 = nI m) {c : Nat → Int64} (hc : ∀ i, i ≤ m → xg 0 hb.2.2.1 20 i = c i) (hq : a_rq a_tb hb) : ∀ (n f i : Nat), i + n = m + 1 → xq f xi_X2_chanceOf xmi_X2_chanceOf 68 [(0, .ref 14), (1, .int x), (2, .long (cs c m x i)), (4, .int (nI i))] [] hb (fun v h' => hb = h' ∧ v = some (.long (cs c m x (m + 1)))) := by
  intro n
  induction n with
  | zero =>
    intro f i hn
    have e : i = m + 1 := by omega
    subst e
    refine xq_n 116 [] [] [.long (cs c m x (m + 1))] hb [true] 60 hq rfl ⟨(show xe_c .gt (nI (m + 1)) (xg 0 hb.2.1 14 7) = true by rw [e7]; exact xgt_t (by rw [nI_toInt (by omega), nI_toInt (by omega)]; omega)), trivial⟩ (fun _ => ?_)
    exact xq_ret rfl rfl rfl ⟨rfl, rfl⟩
  | succ n ih =>
    intro f i hn
    refine xq_n 88 [0, 1, 2, 4] [(0, .ref 14), (1, .int x), (2, .long (cs c m x i)), (4, .int (nI i))] [.int (nI i), .int x, .long (xg 0 hb.2.2.1 20 (nI i).toNatClampNeg), .long (cs c m x i)] hb [false] 60 hq rfl ⟨(show xe_c .gt (nI i) (xg 0 hb.2.1 14 7) = false by rw [e7]; exact xgt_f (by rw [nI_toInt (by omega), nI_toInt (by omega)]; omega)), trivial⟩ (fun _ => ?_)
    rw [nI_clamp (by omega), hc i (by omega)]
    refine xq_run hq rfl rfl (pwc_q (by omega) hq) ?_
    rintro v h1 ⟨rfl, rfl⟩
    refine xq_n 103 [0, 1, 2, 4] [(0, .ref 14), (1, .int x), (2, .long (cs c m x i)), (4, .int (nI i))] [.int (xg 0 hb.2.1 14 7 - nI i), .int (10 - x), .long (c i * pwv x.toInt64 i), .long (cs c m x i)] hb [] 60 hq rfl trivial (fun _ => ?_)
    rw [e7, nI_sub (by omega)]
    refine xq_run hq rfl rfl (pwc_q (by omega) hq) ?_
    rintro v h1 ⟨rfl, rfl⟩
    refine xq_n 68 [0, 1, 2, 4] [(0, .ref 14), (1, .int x), (2, .long (cs c m x i + (c i * pwv x.toInt64 i) * pwv (10 - x).toInt64 (m - i))), (4, .int (nI i + Int32.ofInt 1))] [] hb [] 60 hq rfl trivial (fun _ => ?_)
    rw [nI_1']
    exact ih f (i + 1) (by omega)
set_option maxRecDepth 100000 in
set_option maxHeartbeats 4000000 in
theorem cv_B (A : LA W m q r hb) (m12 : m ≤ 12) (hq0 : a_rq a_tb hb) : ∀ (n f s : Nat) (h : xh_H), s + n = 2 ^ m → a_rq a_tb h → fx fN (Lr 20) hb h → (∀ i, i ≤ m → xg 0 h.2.2.1 20 i = cLg (qk W i) s) → xq f xi_X2_chanceOf xmi_X2_chanceOf 25 [(0, .ref 14), (1, .int x), (2, .int (nI s))] [] h (fun v h' => fx fN (Lr 20) hb h' ∧ v = some (.long (rs W m x (2 ^ m)))) := by
  have p12 : 2 ^ m ≤ 4096 := show 2 ^ m ≤ 2 ^ 12 from Nat.pow_le_pow_right (by decide) m12
  intro n
  induction n with
  | zero =>
    intro f s h hn hq ge w
    have e : s = 2 ^ m := by omega
    subst e
    have A' := LA_g A ge rfl rfl (r20 A hq0)
    refine xq_n 68 [0, 1, 2, 4] [(0, .ref 14), (1, .int x), (2, .long 0), (4, .int (Int32.ofInt 0))] [] h [true] 60 hq rfl ⟨gtt A' m12, trivial⟩ (fun _ => ?_)
    refine xq_mono (cv_C (c := fun i => cLg (qk W i) (2 ^ m)) m12 A'.2.2.2.2.1 w hq (m + 1) f 0 (by omega)) (fun v h' e => ?_)
    obtain ⟨rfl, e⟩ := e
    exact ⟨ge, by rw [e, cs_r m12 _ (Nat.le_refl _)]⟩
  | succ n ih =>
    intro f s h hn hq ge w
    have hs : s < 2 ^ m := by omega
    have A' := LA_g A ge rfl rfl (r20 A hq0)
    refine xq_n 38 [0, 1, 2] [(0, .ref 14), (1, .int x), (2, .int (nI s))] [.int (nI s), va_rf (xg none h.2.2.2 14 6)] h [false] 60 hq rfl ⟨gtf A' m12 hs, trivial⟩ (fun _ => ?_)
    rw [A'.1]
    refine xq_cr (As := [.ref q, .int (nI (s))]) (mj := xmi_X7_holds) (q := []) rfl rfl (fun _ _ => rfl) (xa_cs_ok (d := 0) (pc := 0) (lv := []) (nL := 0) A'.2.1 rfl).1 (fun f => hl_q A' m12 (hs) hq) ?_
    rintro v h1 ⟨rfl, rfl⟩
    cases c : W s with
    | false =>
      refine xq_n 25 [0, 1, 2] [(0, .ref 14), (1, .int x), (2, .int (nI s + Int32.ofInt 1))] [] h [true] 60 hq rfl ⟨rfl, trivial⟩ (fun _ => ?_)
      rw [nI_1']
      exact ih f (s + 1) h (by omega) hq ge (fun i hi => (w i hi).trans (if_neg (by unfold qk; rw [c]; exact (fun z => by cases z))).symm)
    | true =>
      have sl := sz_m m12 hs
      refine xq_n 49 [0, 1, 2] [(0, .ref 14), (1, .int x), (2, .int (nI s))] [.int (nI s), .ref 20] h [false] 60 hq rfl ⟨rfl, trivial⟩ (fun _ => ?_)
      refine xq_run hq rfl rfl (bit_q (by omega) hq) ?_
      rintro v h1 ⟨rfl, rfl⟩
      refine xq_n 25 [0, 1, 2] [(0, .ref 14), (1, .int x), (2, .int (nI s + Int32.ofInt 1))] [] (xh_ul h 20 (nI (sz s)).toNatClampNeg (xg 0 h.2.2.1 20 (nI (sz s)).toNatClampNeg + 1)) [] 60 hq rfl trivial (fun _ => ?_)
      rw [nI_1', show (nI (sz s)).toNatClampNeg = sz s from nI_clamp (by omega), w (sz s) sl]
      refine ih f (s + 1) _ (by omega) (a_rq_ul hq) (fx_ul ge rfl) (fun i hi => ?_)
      by_cases z : i = sz s
      · rw [z, gl_s]; exact (if_pos (qk_s c)).symm
      · exact (gl_k z).trans ((w i hi).trans (if_neg (by unfold qk; rw [decide_eq_false (fun e => z e.symm), Bool.and_false]; decide)).symm)
set_option maxRecDepth 100000 in
set_option maxHeartbeats 4000000 in
theorem cv_A (A : LA W m q r hb) (m12 : m ≤ 12) (hq0 : a_rq a_tb hb) : ∀ (n f i : Nat) (h : xh_H), i + n = m + 1 → a_rq a_tb h → fx fN (Lr 20) hb h → (∀ j, j < i → xg 0 h.2.2.1 20 j = 0) → xq f xi_X2_chanceOf xmi_X2_chanceOf 2 [(0, .ref 14), (1, .int x), (2, .int (nI i))] [] h (fun v h' => fx fN (Lr 20) hb h' ∧ v = some (.long (rs W m x (2 ^ m)))) := by
  intro n
  induction n with
  | zero =>
    intro f i h hn hq ge w
    have e : i = m + 1 := by omega
    subst e
    have A' := LA_g A ge rfl rfl (r20 A hq0)
    refine xq_n 25 [0, 1, 2] [(0, .ref 14), (1, .int x), (2, .int (Int32.ofInt 0))] [] h [true] 60 hq rfl ⟨(show xe_c .gt (nI (m + 1)) (xg 0 h.2.1 14 7) = true by rw [A'.2.2.2.2.1]; exact xgt_t (by rw [nI_toInt (by omega), nI_toInt (by omega)]; omega)), trivial⟩ (fun _ => ?_)
    exact cv_B A m12 hq0 (2 ^ m) f 0 h (by omega) hq ge (fun i hi => w i (by omega))
  | succ n ih =>
    intro f i h hn hq ge w
    have A' := LA_g A ge rfl rfl (r20 A hq0)
    refine xq_n 2 [0, 1, 2] [(0, .ref 14), (1, .int x), (2, .int (nI i + Int32.ofInt 1))] [] (xh_ul h 20 (nI i).toNatClampNeg 0) [false] 60 hq rfl ⟨(show xe_c .gt (nI i) (xg 0 h.2.1 14 7) = false by rw [A'.2.2.2.2.1]; exact xgt_f (by rw [nI_toInt (by omega), nI_toInt (by omega)]; omega)), trivial⟩ (fun _ => ?_)
    rw [nI_1', show (nI i).toNatClampNeg = i from nI_clamp (by omega)]
    refine ih f (i + 1) _ (by omega) (a_rq_ul hq) (fx_ul ge rfl) (fun j hj => ?_)
    by_cases z : j = i
    · rw [z, gl_s]
    · exact (gl_k z).trans (w j (by omega))
theorem cv_q {f : Nat} (A : LA W m q r hb) (m12 : m ≤ 12) (hq : a_rq a_tb hb) : xq f xi_X2_chanceOf xmi_X2_chanceOf 0 [(0, .ref 14), (1, .int x)] [] hb (fun v h' => fx fN (Lr 20) hb h' ∧ v = some (.long (rs W m x (2 ^ m)))) := by
  refine xq_n 2 [0, 1, 2] [(0, .ref 14), (1, .int x), (2, .int (Int32.ofInt 0))] [] hb [] 60 hq rfl trivial (fun _ => ?_)
  exact cv_A A m12 hq (m + 1) f 0 hb (by omega) hq fx_0 (fun j hj => absurd hj (Nat.not_lt_zero j))
set_option maxRecDepth 100000 in
set_option maxHeartbeats 4000000 in
/-- X10.chance -/
theorem cr_l {h : xh_H} (A : RA W m h) (m12 : m ≤ 12) (hq : a_rq a_tb h) : ∀ (n f s : Nat), s + n = 2 ^ m → xq f xi_X10_chance xmi_X10_chance 28 [(0, .ref 39), (1, .int x), (2, .long (rs W m x s)), (4, .int (nI s))] [] h (fun v h' => v = some (.long (rs W m x (2 ^ m)))) := by
  have p12 : 2 ^ m ≤ 4096 := show 2 ^ m ≤ 2 ^ 12 from Nat.pow_le_pow_right (by decide) m12
  intro n
  induction n with
  | zero =>
    intro f s sn
    have e : s = 2 ^ m := by omega
    subst e
    refine xq_n 86 [] [] [.long (rs W m x (2 ^ m))] h [true] 60 hq rfl ⟨rgt A m12, trivial⟩ (fun _ => ?_)
    exact xq_ret rfl rfl rfl rfl
  | succ n ih =>
    intro f s sn
    have hs : s < 2 ^ m := by omega
    have g := be' (rw0 A m12 hs)
    have r := ih f (s + 1) (by omega)
    cases c : W s with
    | false =>
      rw [c] at g
      rw [show rs W m x (s + 1) = rs W m x s from if_neg (by rw [c]; decide)] at r
      refine xq_n 28 [0, 1, 2, 4] [(0, .ref 39), (1, .int x), (2, .long (rs W m x s)), (4, .int (nI s + Int32.ofInt 1))] [] h [false, true] 60 hq rfl ⟨rgf A m12 hs, g, trivial⟩ (fun _ => ?_)
      rw [nI_1']
      exact r
    | true =>
      rw [c] at g
      have sl := sz_m m12 hs
      rw [show rs W m x (s + 1) = rs W m x s + tA x m (sz s) from if_pos c] at r
      refine xq_n 52 [0, 1, 2, 4] [(0, .ref 39), (1, .int x), (2, .long (rs W m x s)), (4, .int (nI s))] [.int (nI s), .long x.toInt64, .long (rs W m x s)] h [false, false] 60 hq rfl ⟨rgf A m12 hs, g, trivial⟩ (fun _ => ?_)
      refine xq_run hq rfl rfl (rso_q (by omega) hq) ?_
      rintro v h1 ⟨rfl, rfl⟩
      refine xq_run hq rfl rfl (pwr'_q (by omega) hq) ?_
      rintro v h1 ⟨rfl, rfl⟩
      refine xq_n 69 [0, 1, 2, 4] [(0, .ref 39), (1, .int x), (2, .long (rs W m x s)), (4, .int (nI s))] [.int (nI s), .int (xg 0 h.2.1 39 4), .long (10 - x).toInt64, .long (pwv x.toInt64 (sz s)), .long (rs W m x s)] h [] 60 hq rfl trivial (fun _ => ?_)
      rw [A.1]
      refine xq_run hq rfl rfl (rso_q (by omega) hq) ?_
      rintro v h1 ⟨rfl, rfl⟩
      refine xq_n 73 [0, 1, 2, 4] [(0, .ref 39), (1, .int x), (2, .long (rs W m x s)), (4, .int (nI s))] [.int (nI m - nI (sz s)), .long (10 - x).toInt64, .long (pwv x.toInt64 (sz s)), .long (rs W m x s)] h [] 60 hq rfl trivial (fun _ => ?_)
      rw [nI_sub sl]
      refine xq_run hq rfl rfl (pwr'_q (by omega) hq) ?_
      rintro v h1 ⟨rfl, rfl⟩
      refine xq_n 28 [0, 1, 2, 4] [(0, .ref 39), (1, .int x), (2, .long (rs W m x s + pwv x.toInt64 (sz s) * pwv (10 - x).toInt64 (m - sz s))), (4, .int (nI s + Int32.ofInt 1))] [] h [] 60 hq rfl trivial (fun _ => ?_)
      rw [nI_1']
      exact r
end
/-- what chance answers -/
def chV (W : Nat → Bool) (m : Nat) (x : Int32) : Int64 := cond (!xe_c .lt x 0 && xe_c .le x 10) (rs W m x (2 ^ m)) 18446744073709551615
section
variable {mem sc : Nat} {d : Int32} {h : xh_H}
set_option maxRecDepth 100000 in
set_option maxHeartbeats 4000000 in
theorem cv9_q {f : Nat} {x : Int32} (hi : a_inv a_tb h) (hn : 72 ≤ h.1.length) (e9 : xg 0 h.2.1 0 9 = nI mem) (m1 : 1 ≤ mem) (m12 : mem ≤ 12) (e8 : xg 0 h.2.1 0 8 = nI sc) (sc8 : sc ≤ 8) (e10 : xg 0 h.2.1 0 10 = d) (si : SI h) (pi : PI h) : xq f xi_X9_chance xmi_X9_chance 0 [(0, .ref 0), (1, .int x)] [] h (fun v h' => v = some (.long (chV (cvB (fun k => xg 0 h.2.1 51 k) (fun k => xg 0 h.2.1 44 k) mem sc d) mem x))) := by
  have hq := a_rq_of hi.1 hn
  unfold chV
  cases c1 : xe_c .lt x 0 with
  | true =>
    refine xq_n 24 [] [] [.long 18446744073709551615] h [true] 5 hq rfl ⟨c1, trivial⟩ (fun _ => ?_)
    exact xq_ret rfl rfl rfl rfl
  | false =>
    cases c2 : xe_c .le x 10 with
    | false =>
      refine xq_n 24 [] [] [.long 18446744073709551615] h [false, false] 8 hq rfl ⟨c1, c2, trivial⟩ (fun _ => ?_)
      exact xq_ret rfl rfl rfl rfl
    | true =>
      refine xq_n 17 [1] [(1, .int x)] [.ref 0] h [false, true] 7 hq rfl ⟨c1, c2, trivial⟩ (fun _ => ?_)
      refine xq_run hq rfl rfl (pt9_q hi hn e9 m1 m12 e8 sc8 e10 si pi) ?_
      rintro v h1 ⟨rfl, Y, PP, q, r, A, P⟩
      have hq1 := Yf_q hi hn Y
      refine xq_n 21 [] [] [.int x, .ref 14] h1 [] 3 hq1 rfl trivial (fun _ => ?_)
      refine xq_run hq1 rfl rfl (cv_q A m12 hq1) ?_
      rintro v h2 ⟨g4, rfl⟩
      exact xq_ret rfl rfl rfl rfl
end
section
variable {mem sc : Nat} {FR RW : Nat → Int32} {d : Int32} {h : xh_H}
set_option maxRecDepth 100000 in
set_option maxHeartbeats 4000000 in
theorem cv10_q {f : Nat} {x : Int32} (m12 : mem ≤ 12) (e4 : xg 0 h.2.1 39 4 = nI mem) (e33 : xg 0 h.2.1 39 33 = nI sc) (sc8 : sc ≤ 8) (e3 : xg 0 h.2.1 39 3 = d) (hF : ∀ k, k < sc → xg 0 h.2.1 51 k = FR k) (hT : ∀ k, k < sc → (xg 0 h.2.1 52 k).toInt ≤ 999) (hR : ∀ k s, k < sc → s < 2 ^ mem → ∃ b : Bool, RW (4096 * k + s) = bl b ∧ xg 0 h.2.1 44 (4096 * k + s) = bl b) (hq : a_rq a_tb h) : xq f xi_X10_chance xmi_X10_chance 0 [(0, .ref 39), (1, .int x)] [] h (fun v h' => v = some (.long (chV (cvB FR RW mem sc d) mem x))) := by
  refine xq_n 9 [0, 1] [(0, .ref 39), (1, .int x)] [.int 10, .int (Int32.ofInt 0), .int x] (xh_ui h 39 0 (Int32.ofInt 0)) [] 60 hq rfl trivial (fun _ => ?_)
  have hq : a_rq a_tb (xh_ui h 39 0 (Int32.ofInt 0)) := a_rq_ui hq
  refine xq_run hq rfl rfl (isIn_q hq) ?_
  rintro v h2 ⟨rfl, rfl⟩
  have ev : decide ((Int32.ofInt 0).toInt ≤ x.toInt ∧ x.toInt ≤ (10 : Int32).toInt) = (!xe_c .lt x 0 && xe_c .le x 10) := by
    cases c1 : xe_c .lt x 0 with
    | true => have b : x.toInt < (0 : Int) := a_ce c1; exact decide_eq_false (fun z => by have z1 : (0 : Int) ≤ x.toInt := z.1; omega)
    | false =>
      have b : (0 : Int) ≤ x.toInt := a_ce (a_neg_ok c1)
      cases c2 : xe_c .le x 10 with
      | true => have b2 : x.toInt ≤ (10 : Int) := a_ce c2; exact decide_eq_true ⟨b, b2⟩
      | false => have b2 : (10 : Int) < x.toInt := a_ce (a_neg_ok c2); exact decide_eq_false (fun z => by have z1 : x.toInt ≤ (10 : Int) := z.2; omega)
  rw [ev]
  unfold chV
  cases (!xe_c .lt x 0 && xe_c .le x 10) with
  | false =>
    refine xq_n 18 [] [] [.long 18446744073709551615] (xh_ui h 39 0 (Int32.ofInt 0)) [false] 60 hq rfl ⟨rfl, trivial⟩ (fun _ => ?_)
    exact xq_ret rfl rfl rfl rfl
  | true =>
    refine xq_n 20 [0, 1] [(0, .ref 39), (1, .int x)] [.ref 39] (xh_ui h 39 0 (Int32.ofInt 0)) [true] 60 hq rfl ⟨rfl, trivial⟩ (fun _ => ?_)
    refine xq_run hq rfl rfl (ly_q m12 e4 e33 sc8 e3 hF hT hR hq) ?_
    rintro v h1 ⟨rfl, g1, A⟩
    have hq := fx_q g1 hq
    refine xq_n 28 [0, 1, 2, 4] [(0, .ref 39), (1, .int x), (2, .long (0)), (4, .int (Int32.ofInt 0))] [] h1 [] 60 hq rfl trivial (fun _ => ?_)
    exact cr_l A m12 hq (2 ^ mem) f 0 (by omega)
end
end XCV
end
