section XMR
section
variable {W : Nat → Bool} {m : Nat} {h : xh_H}
theorem rwc {s : Nat} (A : RA W m h) (m12 : m ≤ 12) (hs : s < 2 ^ m) : xg 0 h.2.1 53 (xg 0 h.2.1 39 35 - Int32.ofInt 1 &&& (nI s ^^^ Int32.ofInt (-1))).toNatClampNeg = bl (W (co m s)) := by
  rw [A.2.1, show nI (2 ^ m) - Int32.ofInt 1 = nI (2 ^ m - 1) from nI_sub (b := 1) (Nat.two_pow_pos m), coc_n m12 hs]
  exact rw0 A m12 co_lt
theorem rwr {s a : Nat} (A : RA W m h) (m12 : m ≤ 12) (hs : s < 2 ^ m) (ha : a < m) : xg 0 h.2.1 53 (nI s &&& ((Int32.ofInt 1 <<< (nI a &&& 31)) ^^^ Int32.ofInt (-1))).toNatClampNeg = bl (W (rmb s a)) := by
  rw [rmb_n (by omega)]
  exact rw0 A m12 (rmb_lt hs)
set_option maxRecDepth 100000 in
set_option maxHeartbeats 4000000 in
/-- X10.isLeast -/
theorem rle_l {s : Nat} (A : RA W m h) (m12 : m ≤ 12) (hs : s < 2 ^ m) (c0 : W s = true) (hq : a_rq a_tb h) : ∀ (j f a : Nat), a + j = m → aln (fun a => !(s.testBit a && dz W m false (rmb s a))) a = true → xq f xi_X10_isLeast xmi_X10_isLeast 13 [(0, .ref 39), (1, .int (nI s)), (2, .int (nI a))] [] h (fun v h' => h = h' ∧ v = some (.int (bl (mi W m false s)))) := by
  intro j
  induction j with
  | zero =>
    intro f a aj w
    have e : a = m := by omega
    subst e
    refine xq_n 54 [] [] [.int (Int32.ofInt 1)] h [true] 60 hq rfl ⟨(show xe_c .ge (nI a) (xg 0 h.2.1 39 4) = true by rw [A.1]; exact nge_t (by omega) (by omega) (Nat.le_refl _)), trivial⟩ (fun _ => ?_)
    exact xq_ret rfl rfl rfl ⟨rfl, by unfold mi; rw [w, show dz W a false s = true from c0]; rfl⟩
  | succ j ih =>
    intro f a aj w
    have ha : a < m := by omega
    have g0 : xe_c .ge (nI a) (xg 0 h.2.1 39 4) = false := by rw [A.1]; exact nge_f (by omega) (by omega) (by omega)
    have g1 := bn1 (rb0 m12 hs ha)
    have g2 := be' (rwr A m12 hs ha)
    cases c1 : s.testBit a with
    | false =>
      rw [c1] at g1
      refine xq_n 13 [0, 1, 2] [(0, .ref 39), (1, .int (nI s)), (2, .int (nI a + Int32.ofInt 1))] [] h [false, true] 60 hq rfl ⟨g0, g1, trivial⟩ (fun _ => ?_)
      rw [nI_1']
      exact ih f (a + 1) (by omega) (aln_s w (by rw [c1]; rfl))
    | true =>
      rw [c1] at g1
      cases c2 : W (rmb s a) with
      | true =>
        rw [c2] at g2
        refine xq_n 46 [] [] [.int (Int32.ofInt 0)] h [false, false, false] 60 hq rfl ⟨g0, g1, g2, trivial⟩ (fun _ => ?_)
        exact xq_ret rfl rfl rfl ⟨rfl, by unfold mi; rw [aln_f (k := a) (show (!(s.testBit a && dz W m false (rmb s a))) = false by rw [c1, show dz W m false (rmb s a) = true from c2]; rfl) m ha, Bool.and_false]; rfl⟩
      | false =>
        rw [c2] at g2
        refine xq_n 13 [0, 1, 2] [(0, .ref 39), (1, .int (nI s)), (2, .int (nI a + Int32.ofInt 1))] [] h [false, false, true] 60 hq rfl ⟨g0, g1, g2, trivial⟩ (fun _ => ?_)
        rw [nI_1']
        exact ih f (a + 1) (by omega) (aln_s w (by rw [show dz W m false (rmb s a) = false from c2, Bool.and_false]; rfl))
set_option maxRecDepth 100000 in
set_option maxHeartbeats 4000000 in
theorem rle_q {f s : Nat} (A : RA W m h) (m12 : m ≤ 12) (hs : s < 2 ^ m) (hq : a_rq a_tb h) : xq f xi_X10_isLeast xmi_X10_isLeast 0 [(0, .ref 39), (1, .int (nI s))] [] h (fun v h' => h = h' ∧ v = some (.int (bl (mi W m false s)))) := by
  have g := bn (rw0 A m12 hs)
  cases c0 : W s with
  | false =>
    rw [c0] at g
    refine xq_n 10 [] [] [.int (Int32.ofInt 0)] h [false] 60 hq rfl ⟨g, trivial⟩ (fun _ => ?_)
    exact xq_ret rfl rfl rfl ⟨rfl, by unfold mi; rw [show dz W m false s = false from c0]; rfl⟩
  | true =>
    rw [c0] at g
    refine xq_n 13 [0, 1, 2] [(0, .ref 39), (1, .int (nI s)), (2, .int (Int32.ofInt 0))] [] h [true] 60 hq rfl ⟨g, trivial⟩ (fun _ => ?_)
    exact rle_l A m12 hs c0 hq m f 0 (by omega) rfl
/-- X10.hinders -/
theorem rhi_q {f s : Nat} (A : RA W m h) (m12 : m ≤ 12) (hs : s < 2 ^ m) (hq : a_rq a_tb h) : xq f xi_X10_hinders xmi_X10_hinders 0 [(0, .ref 39), (1, .int (nI s))] [] h (fun v h' => h = h' ∧ v = some (.int (bl (dz W m true s)))) := by
  have g := bn (rwc A m12 hs)
  show xq f _ _ _ _ _ _ (fun v h' => h = h' ∧ v = some (.int (bl (!W (co m s)))))
  cases c0 : W (co m s) with
  | true =>
    rw [c0] at g
    refine xq_n 23 [] [] [.int (Int32.ofInt 0)] h [true] 60 hq rfl ⟨g, trivial⟩ (fun _ => ?_)
    exact xq_ret rfl rfl rfl ⟨rfl, rfl⟩
  | false =>
    rw [c0] at g
    refine xq_n 23 [] [] [.int (Int32.ofInt 1)] h [false] 60 hq rfl ⟨g, trivial⟩ (fun _ => ?_)
    exact xq_ret rfl rfl rfl ⟨rfl, rfl⟩
set_option maxRecDepth 100000 in
set_option maxHeartbeats 4000000 in
/-- X10.isLeastHinder -/
theorem rlh_l {s : Nat} (A : RA W m h) (m12 : m ≤ 12) (hs : s < 2 ^ m) (c0 : dz W m true s = true) (hq : a_rq a_tb h) : ∀ (j f a : Nat), a + j = m → aln (fun a => !(s.testBit a && dz W m true (rmb s a))) a = true → xq f xi_X10_isLeastHinder xmi_X10_isLeastHinder 12 [(0, .ref 39), (1, .int (nI s)), (2, .int (nI a))] [] h (fun v h' => h = h' ∧ v = some (.int (bl (mi W m true s)))) := by
  intro j
  induction j with
  | zero =>
    intro f a aj w
    have e : a = m := by omega
    subst e
    refine xq_n 52 [] [] [.int (Int32.ofInt 1)] h [true] 60 hq rfl ⟨(show xe_c .ge (nI a) (xg 0 h.2.1 39 4) = true by rw [A.1]; exact nge_t (by omega) (by omega) (Nat.le_refl _)), trivial⟩ (fun _ => ?_)
    exact xq_ret rfl rfl rfl ⟨rfl, by unfold mi; rw [w, c0]; rfl⟩
  | succ j ih =>
    intro f a aj w
    have ha : a < m := by omega
    have g0 : xe_c .ge (nI a) (xg 0 h.2.1 39 4) = false := by rw [A.1]; exact nge_f (by omega) (by omega) (by omega)
    have g1 := bn1 (rb0 m12 hs ha)
    cases c1 : s.testBit a with
    | false =>
      rw [c1] at g1
      refine xq_n 12 [0, 1, 2] [(0, .ref 39), (1, .int (nI s)), (2, .int (nI a + Int32.ofInt 1))] [] h [false, true] 60 hq rfl ⟨g0, g1, trivial⟩ (fun _ => ?_)
      rw [nI_1']
      exact ih f (a + 1) (by omega) (aln_s w (by rw [c1]; rfl))
    | true =>
      rw [c1] at g1
      refine xq_n 37 [0, 1, 2] [(0, .ref 39), (1, .int (nI s)), (2, .int (nI a))] [.int (nI s &&& ((Int32.ofInt 1 <<< (nI a &&& 31)) ^^^ Int32.ofInt (-1))), .ref 39] h [false, false] 60 hq rfl ⟨g0, g1, trivial⟩ (fun _ => ?_)
      rw [rmb_n (by omega)]
      refine xq_run hq rfl rfl (rhi_q A m12 (rmb_lt hs) hq) ?_
      rintro v h1 ⟨rfl, rfl⟩
      cases c2 : dz W m true (rmb s a) with
      | true =>
        refine xq_n 44 [] [] [.int (Int32.ofInt 0)] h [false] 60 hq rfl ⟨rfl, trivial⟩ (fun _ => ?_)
        exact xq_ret rfl rfl rfl ⟨rfl, by unfold mi; rw [aln_f (k := a) (show (!(s.testBit a && dz W m true (rmb s a))) = false by rw [c1, c2]; rfl) m ha, Bool.and_false]; rfl⟩
      | false =>
        refine xq_n 12 [0, 1, 2] [(0, .ref 39), (1, .int (nI s)), (2, .int (nI a + Int32.ofInt 1))] [] h [true] 60 hq rfl ⟨rfl, trivial⟩ (fun _ => ?_)
        rw [nI_1']
        exact ih f (a + 1) (by omega) (aln_s w (by rw [c2, Bool.and_false]; rfl))
theorem rlh_q {f s : Nat} (A : RA W m h) (m12 : m ≤ 12) (hs : s < 2 ^ m) (hq : a_rq a_tb h) : xq f xi_X10_isLeastHinder xmi_X10_isLeastHinder 0 [(0, .ref 39), (1, .int (nI s))] [] h (fun v h' => h = h' ∧ v = some (.int (bl (mi W m true s)))) := by
  refine xq_n 2 [0, 1] [(0, .ref 39), (1, .int (nI s))] [.int (nI s), .ref 39] h [] 60 hq rfl trivial (fun _ => ?_)
  refine xq_run hq rfl rfl (rhi_q A m12 hs hq) ?_
  rintro v h1 ⟨rfl, rfl⟩
  cases c0 : dz W m true s with
  | false =>
    refine xq_n 9 [] [] [.int (Int32.ofInt 0)] h [false] 60 hq rfl ⟨rfl, trivial⟩ (fun _ => ?_)
    exact xq_ret rfl rfl rfl ⟨rfl, by unfold mi; rw [c0]; rfl⟩
  | true =>
    refine xq_n 12 [0, 1, 2] [(0, .ref 39), (1, .int (nI s)), (2, .int (Int32.ofInt 0))] [] h [true] 60 hq rfl ⟨rfl, trivial⟩ (fun _ => ?_)
    exact rlh_l A m12 hs c0 hq m f 0 (by omega) rfl
/-- X10.isOfKind -/
theorem rik_q {f s : Nat} {x : Int32} (A : RA W m h) (m12 : m ≤ 12) (hs : s < 2 ^ m) (hq : a_rq a_tb h) : xq f xi_X10_isOfKind xmi_X10_isOfKind 0 [(0, .ref 39), (1, .int (nI s)), (2, .int x)] [] h (fun v h' => h = h' ∧ v = some (.int (bl (mi W m (xe_c .ne x (Int32.ofInt 1)) s)))) := by
  cases c : xe_c .ne x (Int32.ofInt 1) with
  | false =>
    refine xq_n 7 [] [] [.int (nI s), .ref 39] h [false] 60 hq rfl ⟨c, trivial⟩ (fun _ => ?_)
    refine xq_run hq rfl rfl (rle_q A m12 hs hq) ?_
    rintro v h1 ⟨rfl, rfl⟩
    refine xq_n 18 [] [] [.int (bl (mi W m false s))] h [] 60 hq rfl trivial (fun _ => ?_)
    exact xq_ret rfl rfl rfl ⟨rfl, rfl⟩
  | true =>
    refine xq_n 15 [] [] [.int (nI s), .ref 39] h [true] 60 hq rfl ⟨c, trivial⟩ (fun _ => ?_)
    refine xq_run hq rfl rfl (rlh_q A m12 hs hq) ?_
    rintro v h1 ⟨rfl, rfl⟩
    exact xq_ret rfl rfl rfl ⟨rfl, rfl⟩
set_option maxRecDepth 100000 in
set_option maxHeartbeats 4000000 in
/-- X10.countOf -/
theorem rco_l {x : Int32} (A : RA W m h) (m12 : m ≤ 12) (hq : a_rq a_tb h) : ∀ (n f s : Nat), s + n = 2 ^ m → xq f xi_X10_countOf xmi_X10_countOf 4 [(0, .ref 39), (1, .int x), (2, .int (nI (cnt (mi W m (xe_c .ne x (Int32.ofInt 1))) s))), (3, .int (nI s))] [] h (fun v h' => h = h' ∧ v = some (.int (nI (cnt (mi W m (xe_c .ne x (Int32.ofInt 1))) (2 ^ m))))) := by
  intro n
  induction n with
  | zero =>
    intro f s sn
    have e : s = 2 ^ m := by omega
    subst e
    refine xq_n 31 [] [] [.int (nI (cnt (mi W m (xe_c .ne x (Int32.ofInt 1))) (2 ^ m)))] h [true] 60 hq rfl ⟨rgt A m12, trivial⟩ (fun _ => ?_)
    exact xq_ret rfl rfl rfl ⟨rfl, rfl⟩
  | succ n ih =>
    intro f s sn
    have r := ih f (s + 1) (by omega)
    refine xq_n 15 [0, 1, 2, 3] [(0, .ref 39), (1, .int x), (2, .int (nI (cnt (mi W m (xe_c .ne x (Int32.ofInt 1))) s))), (3, .int (nI s))] [.int x, .int (nI s), .ref 39] h [false] 60 hq rfl ⟨rgf A m12 (by omega), trivial⟩ (fun _ => ?_)
    refine xq_run hq rfl rfl (rik_q A m12 (by omega) hq) ?_
    rintro v h1 ⟨rfl, rfl⟩
    cases c : mi W m (xe_c .ne x (Int32.ofInt 1)) s with
    | true =>
      rw [cnt_t c] at r
      refine xq_n 4 [0, 1, 2, 3] [(0, .ref 39), (1, .int x), (2, .int (nI (cnt (mi W m (xe_c .ne x (Int32.ofInt 1))) s) + Int32.ofInt 1)), (3, .int (nI s + Int32.ofInt 1))] [] h [false] 60 hq rfl ⟨rfl, trivial⟩ (fun _ => ?_)
      rw [nI_1', nI_1']
      exact r
    | false =>
      rw [cnt_f c] at r
      refine xq_n 4 [0, 1, 2, 3] [(0, .ref 39), (1, .int x), (2, .int (nI (cnt (mi W m (xe_c .ne x (Int32.ofInt 1))) s))), (3, .int (nI s + Int32.ofInt 1))] [] h [true] 60 hq rfl ⟨rfl, trivial⟩ (fun _ => ?_)
      rw [nI_1']
      exact r
theorem rco_q {f : Nat} {x : Int32} (A : RA W m h) (m12 : m ≤ 12) (hq : a_rq a_tb h) : xq f xi_X10_countOf xmi_X10_countOf 0 [(0, .ref 39), (1, .int x)] [] h (fun v h' => h = h' ∧ v = some (.int (nI (cnt (mi W m (xe_c .ne x (Int32.ofInt 1))) (2 ^ m))))) := by
  refine xq_n 4 [0, 1, 2, 3] [(0, .ref 39), (1, .int x), (2, .int (Int32.ofInt 0)), (3, .int (Int32.ofInt 0))] [] h [] 60 hq rfl trivial (fun _ => ?_)
  exact rco_l A m12 hq (2 ^ m) f 0 (by omega)
/-- in one of them -/
def inO (P : Nat → Bool) (N a : Nat) : Bool := !inN P N a
set_option maxRecDepth 100000 in
set_option maxHeartbeats 4000000 in
/-- X10.whoIs -/
theorem rwh_l {x : Int32} (A : RA W m h) (m12 : m ≤ 12) (hq : a_rq a_tb h) {Q : Option Value → xh_H → Prop} (K : ∀ f, xq f xi_X10_whoIs xmi_X10_whoIs 55 [(0, .ref 39), (1, .int x), (2, .int (nI (msk (inA (mi W m false) (2 ^ m)) m))), (3, .int (nI (msk (inO (mi W m false) (2 ^ m)) m))), (4, .int (bl (decide (cnt (mi W m false) (2 ^ m) ≠ 0))))] [] h Q) : ∀ (n f s : Nat), s + n = 2 ^ m → xq f xi_X10_whoIs xmi_X10_whoIs 15 [(0, .ref 39), (1, .int x), (2, .int (nI (msk (inA (mi W m false) s) m))), (3, .int (nI (msk (inO (mi W m false) s) m))), (4, .int (bl (decide (cnt (mi W m false) s ≠ 0)))), (5, .int (nI s))] [] h Q := by
  have p12 : 2 ^ m ≤ 4096 := show 2 ^ m ≤ 2 ^ 12 from Nat.pow_le_pow_right (by decide) m12
  intro n
  induction n with
  | zero =>
    intro f s sn
    have e : s = 2 ^ m := by omega
    subst e
    refine xq_n 55 [0, 1, 2, 3, 4] [(0, .ref 39), (1, .int x), (2, .int (nI (msk (inA (mi W m false) (2 ^ m)) m))), (3, .int (nI (msk (inO (mi W m false) (2 ^ m)) m))), (4, .int (bl (decide (cnt (mi W m false) (2 ^ m) ≠ 0))))] [] h [true] 60 hq rfl ⟨rgt A m12, trivial⟩ (fun _ => ?_)
    exact K f
  | succ n ih =>
    intro f s sn
    have hs : s < 2 ^ m := by omega
    have r := ih f (s + 1) (by omega)
    refine xq_n 27 [0, 1, 2, 3, 4, 5] [(0, .ref 39), (1, .int x), (2, .int (nI (msk (inA (mi W m false) s) m))), (3, .int (nI (msk (inO (mi W m false) s) m))), (4, .int (bl (decide (cnt (mi W m false) s ≠ 0)))), (5, .int (nI s))] [.int (nI s), .ref 39] h [false] 60 hq rfl ⟨rgf A m12 hs, trivial⟩ (fun _ => ?_)
    refine xq_run hq rfl rfl (rle_q A m12 hs hq) ?_
    rintro v h1 ⟨rfl, rfl⟩
    cases c : mi W m false s with
    | false =>
      have e2 : msk (inA (mi W m false) (s + 1)) m = msk (inA (mi W m false) s) m := msk_c m (fun a _ => aln_1 (by rw [c]; rfl))
      have e3 : msk (inO (mi W m false) (s + 1)) m = msk (inO (mi W m false) s) m := msk_c m (fun a _ => congrArg (fun b => !b) (aln_1 (by rw [c]; rfl)))
      rw [e2, e3, cnt_f c] at r
      refine xq_n 15 [0, 1, 2, 3, 4, 5] [(0, .ref 39), (1, .int x), (2, .int (nI (msk (inA (mi W m false) s) m))), (3, .int (nI (msk (inO (mi W m false) s) m))), (4, .int (bl (decide (cnt (mi W m false) s ≠ 0)))), (5, .int (nI s + Int32.ofInt 1))] [] h [false] 60 hq rfl ⟨rfl, trivial⟩ (fun _ => ?_)
      rw [nI_1']
      exact r
    | true =>
      have e2 : nI (msk (inA (mi W m false) s) m) &&& nI s = nI (msk (inA (mi W m false) (s + 1)) m) := by
        rw [nI_and]
        congr 1
        refine msk_e (fun i => ?_)
        rw [Nat.testBit_and, msk_tb]
        show _ = (decide (i < m) && (inA (mi W m false) s i && (!mi W m false s || s.testBit i)))
        rw [c, Bool.and_assoc]
        rfl
      have e3 : nI (msk (inO (mi W m false) s) m) ||| nI s = nI (msk (inO (mi W m false) (s + 1)) m) := by
        rw [nI_or]
        congr 1
        refine msk_e (fun i => ?_)
        rw [Nat.testBit_or, msk_tb]
        show _ = (decide (i < m) && !(inN (mi W m false) s i && (!mi W m false s || !s.testBit i)))
        rw [c]
        show (decide (i < m) && !inN (mi W m false) s i || s.testBit i) = (decide (i < m) && !(inN (mi W m false) s i && !s.testBit i))
        cases z : s.testBit i with
        | false => cases decide (i < m) <;> cases inN (mi W m false) s i <;> rfl
        | true => rw [decide_eq_true (tb_lt hs z)]; cases inN (mi W m false) s i <;> rfl
      rw [cnt_t c, decide_eq_true (show cnt (mi W m false) s + 1 ≠ 0 by omega)] at r
      refine xq_n 15 [0, 1, 2, 3, 4, 5] [(0, .ref 39), (1, .int x), (2, .int (nI (msk (inA (mi W m false) s) m) &&& nI s)), (3, .int (nI (msk (inO (mi W m false) s) m) ||| nI s)), (4, .int (Int32.ofInt 1)), (5, .int (nI s + Int32.ofInt 1))] [] h [true] 60 hq rfl ⟨rfl, trivial⟩ (fun _ => ?_)
      rw [nI_1', e2, e3]
      exact r
set_option maxRecDepth 100000 in
set_option maxHeartbeats 4000000 in
theorem rwh_q {f : Nat} {x : Int32} (A : RA W m h) (m12 : m ≤ 12) (hq : a_rq a_tb h) : xq f xi_X10_whoIs xmi_X10_whoIs 0 [(0, .ref 39), (1, .int x)] [] h (fun v h' => h = h' ∧ v = some (.int (nI (cond (xe_c .eq x 0) (ndN (mi W m false) (2 ^ m) m) (idN (mi W m false) (2 ^ m) m))))) := by
  refine xq_n 15 [0, 1, 2, 3, 4, 5] [(0, .ref 39), (1, .int x), (2, .int (xg 0 h.2.1 39 35 - Int32.ofInt 1)), (3, .int (Int32.ofInt 0)), (4, .int (Int32.ofInt 0)), (5, .int (Int32.ofInt 0))] [] h [] 60 hq rfl trivial (fun _ => ?_)
  have ea : xg 0 h.2.1 39 35 - Int32.ofInt 1 = nI (2 ^ m - 1) := by rw [A.2.1]; exact nI_sub (b := 1) (Nat.two_pow_pos m)
  rw [ea]
  have s0 : nI (2 ^ m - 1) = nI (msk (inA (mi W m false) 0) m) := by rw [← msk_f]; rfl
  have z0 : Int32.ofInt 0 = nI (msk (inO (mi W m false) 0) m) := by
    rw [show msk (inO (mi W m false) 0) m = 0 from Nat.eq_of_testBit_eq (fun i => by rw [msk_tb, Nat.zero_testBit]; exact Bool.and_false _)]
    rfl
  have r := rwh_l (x := x) (Q := fun v h' => h = h' ∧ v = some (.int (nI (cond (xe_c .eq x 0) (ndN (mi W m false) (2 ^ m) m) (idN (mi W m false) (2 ^ m) m))))) A m12 hq (fun f => ?_) (2 ^ m) f 0 (by omega)
  · rw [← s0, ← z0] at r
    exact r
  cases c : xe_c .eq x 0 with
  | false =>
    refine xq_n 82 [] [] [.int (xg 0 h.2.1 39 35 - Int32.ofInt 1 &&& (nI (msk (inO (mi W m false) (2 ^ m)) m) ^^^ Int32.ofInt (-1)))] h [false] 60 hq rfl ⟨c, trivial⟩ (fun _ => ?_)
    refine xq_ret rfl rfl rfl ⟨rfl, ?_⟩
    rw [ea]
    congr 2
    refine nI_andn (fun i _ => ?_)
    show _ = (idN (mi W m false) (2 ^ m) m).testBit i
    unfold idN
    rw [msk_tb, msk_tb, Nat.testBit_two_pow_sub_one]
    unfold inO
    cases decide (i < m) <;> cases inN (mi W m false) (2 ^ m) i <;> rfl
  | true =>
    unfold ndN
    by_cases z : cnt (mi W m false) (2 ^ m) = 0
    · rw [decide_eq_false (fun y => y z)]
      refine xq_n 82 [] [] [.int (Int32.ofInt 0)] h [true, true] 60 hq rfl ⟨c, rfl, trivial⟩ (fun _ => ?_)
      exact xq_ret rfl rfl rfl ⟨rfl, by show _ = some (Value.int (nI (if _ then _ else _))); rw [if_pos z]; rfl⟩
    · rw [decide_eq_true z]
      refine xq_n 82 [] [] [.int (nI (msk (inA (mi W m false) (2 ^ m)) m))] h [true, false] 60 hq rfl ⟨c, rfl, trivial⟩ (fun _ => ?_)
      exact xq_ret rfl rfl rfl ⟨rfl, by show _ = some (Value.int (nI (if _ then _ else _))); rw [if_neg z]⟩
set_option maxRecDepth 100000 in
set_option maxHeartbeats 4000000 in
theorem rpr_l (A : RA W m h) (m12 : m ≤ 12) (hq : a_rq a_tb h) : ∀ (n f s : Nat), s + n = 2 ^ m → aln (prP W m) s = true → xq f xi_X10_isProper xmi_X10_isProper 2 [(0, .ref 39), (1, .int (nI s))] [] h (fun v h' => h = h' ∧ v = some (.int (bl (aln (prP W m) (2 ^ m))))) := by
  intro n
  induction n with
  | zero =>
    intro f s sn w
    have e : s = 2 ^ m := by omega
    subst e
    refine xq_n 46 [] [] [.int (Int32.ofInt 1)] h [true] 60 hq rfl ⟨rgt A m12, trivial⟩ (fun _ => ?_)
    exact xq_ret rfl rfl rfl ⟨rfl, by rw [w]; rfl⟩
  | succ n ih =>
    intro f s sn w
    have hs : s < 2 ^ m := by omega
    have g1 := be' (rw0 A m12 hs)
    have g2 := be' (rwc A m12 hs)
    cases c : W s with
    | false =>
      rw [c] at g1
      refine xq_n 2 [0, 1] [(0, .ref 39), (1, .int (nI s + Int32.ofInt 1))] [] h [false, true] 60 hq rfl ⟨rgf A m12 hs, g1, trivial⟩ (fun _ => ?_)
      rw [nI_1']
      exact ih f (s + 1) (by omega) (aln_s w (by unfold prP; rw [c]; rfl))
    | true =>
      rw [c] at g1
      cases c2 : W (co m s) with
      | false =>
        rw [c2] at g2
        refine xq_n 2 [0, 1] [(0, .ref 39), (1, .int (nI s + Int32.ofInt 1))] [] h [false, false, true] 60 hq rfl ⟨rgf A m12 hs, g1, g2, trivial⟩ (fun _ => ?_)
        rw [nI_1']
        exact ih f (s + 1) (by omega) (aln_s w (by unfold prP; rw [c, c2]; rfl))
      | true =>
        rw [c2] at g2
        refine xq_n 38 [] [] [.int (Int32.ofInt 0)] h [false, false, false] 60 hq rfl ⟨rgf A m12 hs, g1, g2, trivial⟩ (fun _ => ?_)
        exact xq_ret rfl rfl rfl ⟨rfl, by rw [aln_f (show prP W m s = false by unfold prP; rw [c, c2]; rfl) (2 ^ m) hs]; rfl⟩
theorem rpr_q {f : Nat} (A : RA W m h) (m12 : m ≤ 12) (hq : a_rq a_tb h) : xq f xi_X10_isProper xmi_X10_isProper 0 [(0, .ref 39)] [] h (fun v h' => h = h' ∧ v = some (.int (bl (aln (prP W m) (2 ^ m))))) := by
  refine xq_n 2 [0, 1] [(0, .ref 39), (1, .int (Int32.ofInt 0))] [] h [] 60 hq rfl trivial (fun _ => ?_)
  exact rpr_l A m12 hq (2 ^ m) f 0 (by omega) rfl
set_option maxRecDepth 100000 in
set_option maxHeartbeats 4000000 in
theorem rstr_l (A : RA W m h) (m12 : m ≤ 12) (hq : a_rq a_tb h) : ∀ (n f s : Nat), s + n = 2 ^ m → aln (sgP W m) s = true → xq f xi_X10_isStrong xmi_X10_isStrong 2 [(0, .ref 39), (1, .int (nI s))] [] h (fun v h' => h = h' ∧ v = some (.int (bl (aln (sgP W m) (2 ^ m))))) := by
  intro n
  induction n with
  | zero =>
    intro f s sn w
    have e : s = 2 ^ m := by omega
    subst e
    refine xq_n 46 [] [] [.int (Int32.ofInt 1)] h [true] 60 hq rfl ⟨rgt A m12, trivial⟩ (fun _ => ?_)
    exact xq_ret rfl rfl rfl ⟨rfl, by rw [w]; rfl⟩
  | succ n ih =>
    intro f s sn w
    have hs : s < 2 ^ m := by omega
    have g1 := bn (rw0 A m12 hs)
    have g2 := bn (rwc A m12 hs)
    cases c : W s with
    | true =>
      rw [c] at g1
      refine xq_n 2 [0, 1] [(0, .ref 39), (1, .int (nI s + Int32.ofInt 1))] [] h [false, true] 60 hq rfl ⟨rgf A m12 hs, g1, trivial⟩ (fun _ => ?_)
      rw [nI_1']
      exact ih f (s + 1) (by omega) (aln_s w (by unfold sgP; rw [c]; rfl))
    | false =>
      rw [c] at g1
      cases c2 : W (co m s) with
      | true =>
        rw [c2] at g2
        refine xq_n 2 [0, 1] [(0, .ref 39), (1, .int (nI s + Int32.ofInt 1))] [] h [false, false, true] 60 hq rfl ⟨rgf A m12 hs, g1, g2, trivial⟩ (fun _ => ?_)
        rw [nI_1']
        exact ih f (s + 1) (by omega) (aln_s w (by unfold sgP; rw [c, c2]; rfl))
      | false =>
        rw [c2] at g2
        refine xq_n 38 [] [] [.int (Int32.ofInt 0)] h [false, false, false] 60 hq rfl ⟨rgf A m12 hs, g1, g2, trivial⟩ (fun _ => ?_)
        exact xq_ret rfl rfl rfl ⟨rfl, by rw [aln_f (show sgP W m s = false by unfold sgP; rw [c, c2]; rfl) (2 ^ m) hs]; rfl⟩
theorem rstr_q {f : Nat} (A : RA W m h) (m12 : m ≤ 12) (hq : a_rq a_tb h) : xq f xi_X10_isStrong xmi_X10_isStrong 0 [(0, .ref 39)] [] h (fun v h' => h = h' ∧ v = some (.int (bl (aln (sgP W m) (2 ^ m))))) := by
  refine xq_n 2 [0, 1] [(0, .ref 39), (1, .int (Int32.ofInt 0))] [] h [] 60 hq rfl trivial (fun _ => ?_)
  exact rstr_l A m12 hq (2 ^ m) f 0 (by omega) rfl
theorem hdv_0 {o u : Bool} : xe_c .ne (hdv o u) 0 = (o || u) := by cases o <;> cases u <;> decide
theorem lnd_t (h : ∀ a b, a < b → b < m → ge1 W m a b = true) : lnd W m = true := aln_i (fun a ha => aln_i (fun b hb => by rw [ge1_s]; exact h b a hb ha))
theorem lnd_f {a b : Nat} (hab : a < b) (hb : b < m) (h : ge1 W m a b = false) : lnd W m = false := aln_f (P := fun a => aln (ge1 W m a) a) (k := b) (aln_f (P := ge1 W m b) (k := a) (by rw [ge1_s]; exact h) b hab) m hb
set_option maxRecDepth 100000 in
set_option maxHeartbeats 4000000 in
theorem rln_in (A : RA W m h) (m12 : m ≤ 12) (hq : a_rq a_tb h) {a : Nat} (ha : a < m) (K : ∀ f, (∀ b, a < b → b < m → ge1 W m a b = true) → xq f xi_X10_isLined xmi_X10_isLined 2 [(0, .ref 39), (1, .int (nI (a + 1)))] [] h (fun v h' => h = h' ∧ v = some (.int (bl (lnd W m))))) : ∀ (n f b : Nat), b + n = m → a < b → (∀ b', a < b' → b' < b → ge1 W m a b' = true) → xq f xi_X10_isLined xmi_X10_isLined 14 [(0, .ref 39), (1, .int (nI a)), (2, .int (nI b))] [] h (fun v h' => h = h' ∧ v = some (.int (bl (lnd W m)))) := by
  intro n
  induction n with
  | zero =>
    intro f b bn ab w
    have e : b = m := by omega
    subst e
    refine xq_n 2 [0, 1] [(0, .ref 39), (1, .int (nI a + Int32.ofInt 1))] [] h [true] 60 hq rfl ⟨(show xe_c .ge (nI b) (xg 0 h.2.1 39 4) = true by rw [A.1]; exact nge_t (by omega) (by omega) (Nat.le_refl _)), trivial⟩ (fun _ => ?_)
    rw [nI_1']
    exact K f w
  | succ n ih =>
    intro f b bn ab w
    have hb : b < m := by omega
    refine xq_n 25 [0, 1, 2] [(0, .ref 39), (1, .int (nI a)), (2, .int (nI b))] [.int (nI b), .int (nI a), .ref 39] h [false] 60 hq rfl ⟨(show xe_c .ge (nI b) (xg 0 h.2.1 39 4) = false by rw [A.1]; exact nge_f (by omega) (by omega) hb), trivial⟩ (fun _ => ?_)
    refine xq_run hq rfl rfl (hel_q A m12 ha hb hq) ?_
    rintro v h1 ⟨rfl, rfl⟩
    have g := hdv_0 (o := aln (gp W a b) (2 ^ m)) (u := aln (gp W b a) (2 ^ m))
    cases c : (aln (gp W a b) (2 ^ m) || aln (gp W b a) (2 ^ m)) with
    | true =>
      rw [c] at g
      refine xq_n 14 [0, 1, 2] [(0, .ref 39), (1, .int (nI a)), (2, .int (nI b + Int32.ofInt 1))] [] h [true] 60 hq rfl ⟨g, trivial⟩ (fun _ => ?_)
      rw [nI_1']
      refine ih f (b + 1) (by omega) (by omega) (fun b' h1 h2 => ?_)
      by_cases z : b' = b
      · rw [z]; exact c
      · exact w b' h1 (by omega)
    | false =>
      rw [c] at g
      refine xq_n 32 [] [] [.int (Int32.ofInt 0)] h [false] 60 hq rfl ⟨g, trivial⟩ (fun _ => ?_)
      exact xq_ret rfl rfl rfl ⟨rfl, by rw [lnd_f ab hb c]; rfl⟩
set_option maxRecDepth 100000 in
set_option maxHeartbeats 4000000 in
theorem rln_l (A : RA W m h) (m12 : m ≤ 12) (hq : a_rq a_tb h) : ∀ (n f a : Nat), a + n = m → (∀ a' b, a' < a → a' < b → b < m → ge1 W m a' b = true) → xq f xi_X10_isLined xmi_X10_isLined 2 [(0, .ref 39), (1, .int (nI a))] [] h (fun v h' => h = h' ∧ v = some (.int (bl (lnd W m)))) := by
  intro n
  induction n with
  | zero =>
    intro f a an w
    have e : a = m := by omega
    subst e
    refine xq_n 46 [] [] [.int (Int32.ofInt 1)] h [true] 60 hq rfl ⟨(show xe_c .ge (nI a) (xg 0 h.2.1 39 4) = true by rw [A.1]; exact nge_t (by omega) (by omega) (Nat.le_refl _)), trivial⟩ (fun _ => ?_)
    exact xq_ret rfl rfl rfl ⟨rfl, by rw [lnd_t (fun a' b h1 h2 => w a' b (by omega) h1 h2)]; rfl⟩
  | succ n ih =>
    intro f a an w
    refine xq_n 14 [0, 1, 2] [(0, .ref 39), (1, .int (nI a)), (2, .int (nI a + Int32.ofInt 1))] [] h [false] 60 hq rfl ⟨(show xe_c .ge (nI a) (xg 0 h.2.1 39 4) = false by rw [A.1]; exact nge_f (by omega) (by omega) (by omega)), trivial⟩ (fun _ => ?_)
    rw [nI_1']
    refine rln_in A m12 hq (show a < m by omega) (fun f w2 => ih f (a + 1) (by omega) (fun a' b h1 h2 h3 => ?_)) n f (a + 1) (by omega) (by omega) (fun b' h1 h2 => by omega)
    by_cases z : a' = a
    · rw [z]; rw [z] at h2; exact w2 b h2 h3
    · exact w a' b (by omega) h2 h3
theorem rln_q {f : Nat} (A : RA W m h) (m12 : m ≤ 12) (hq : a_rq a_tb h) : xq f xi_X10_isLined xmi_X10_isLined 0 [(0, .ref 39)] [] h (fun v h' => h = h' ∧ v = some (.int (bl (lnd W m)))) := by
  refine xq_n 2 [0, 1] [(0, .ref 39), (1, .int (Int32.ofInt 0))] [] h [] 60 hq rfl trivial (fun _ => ?_)
  exact rln_l A m12 hq m f 0 (by omega) (fun a' b h1 => absurd h1 (Nat.not_lt_zero a'))
end
set_option maxRecDepth 100000 in
set_option maxHeartbeats 4000000 in
/-- X10.sizeOf -/
theorem rso_l {s : Nat} {h : xh_H} (hs : s < 4096) (hq : a_rq a_tb h) : ∀ (n f i : Nat), i + n = 12 → xq f xi_X10_sizeOf xmi_X10_sizeOf 4 [(0, .int (nI s)), (1, .int (nI (cnt (fun i => s.testBit i) i))), (2, .int (nI i))] [] h (fun v h' => h = h' ∧ v = some (.int (nI (sz s)))) := by
  intro n
  induction n with
  | zero =>
    intro f i hn
    have e : i = 12 := by omega
    subst e
    refine xq_n 25 [] [] [.int (nI (sz s))] h [true] 60 hq rfl ⟨rfl, trivial⟩ (fun _ => ?_)
    exact xq_ret rfl rfl rfl ⟨rfl, rfl⟩
  | succ n ih =>
    intro f i hn
    have r := ih f (i + 1) (by omega)
    refine xq_n 4 [0, 1, 2] [(0, .int (nI s)), (1, .int (nI (cnt (fun i => s.testBit i) i) + ((nI s >>> (nI i &&& 31)) &&& Int32.ofInt 1))), (2, .int (nI i + Int32.ofInt 1))] [] h [false] 60 hq rfl ⟨nge_f (b := 12) (by omega) (by decide) (by omega), trivial⟩ (fun _ => ?_)
    rw [nI_1', nI_b0 (by omega) (by omega), nI_add]
    cases c : s.testBit i with
    | true =>
      rw [cnt_t (P := fun i => s.testBit i) c] at r
      exact r
    | false =>
      rw [cnt_f (P := fun i => s.testBit i) c] at r
      exact r
theorem rso_q {f s : Nat} {h : xh_H} (hs : s < 4096) (hq : a_rq a_tb h) : xq f xi_X10_sizeOf xmi_X10_sizeOf 0 [(0, .int (nI s))] [] h (fun v h' => h = h' ∧ v = some (.int (nI (sz s)))) := by
  refine xq_n 4 [0, 1, 2] [(0, .int (nI s)), (1, .int (Int32.ofInt 0)), (2, .int (Int32.ofInt 0))] [] h [] 60 hq rfl trivial (fun _ => ?_)
  exact rso_l hs hq 12 f 0 (by omega)
section
variable {mem sc : Nat} {FR RW : Nat → Int32} {d : Int32} {h : xh_H}
set_option maxRecDepth 100000 in
set_option maxHeartbeats 4000000 in
theorem rca_l {W : Nat → Bool} {m : Nat} (A : RA W m h) (m12 : m ≤ 12) (hq : a_rq a_tb h) : ∀ (n f s : Nat), s + n = 2 ^ m → xq f xi_X10_many xmi_X10_many 62 [(0, .ref 39), (2, .int (nI (cnt W s))), (3, .int (nI s))] [] h (fun v h' => v = some (.int (nI (cnt W (2 ^ m))))) := by
  intro n
  induction n with
  | zero =>
    intro f s sn
    have e : s = 2 ^ m := by omega
    subst e
    refine xq_n 89 [] [] [.int (nI (cnt W (2 ^ m)))] h [true] 60 hq rfl ⟨rgt A m12, trivial⟩ (fun _ => ?_)
    exact xq_ret rfl rfl rfl rfl
  | succ n ih =>
    intro f s sn
    have r := ih f (s + 1) (by omega)
    have hs : s < 2 ^ m := by omega
    have g := be' (rw0 A m12 hs)
    cases c : W s with
    | true =>
      rw [c] at g
      rw [cnt_t c] at r
      refine xq_n 62 [0, 2, 3] [(0, .ref 39), (2, .int (nI (cnt W s) + Int32.ofInt 1)), (3, .int (nI s + Int32.ofInt 1))] [] h [false, false] 60 hq rfl ⟨rgf A m12 hs, g, trivial⟩ (fun _ => ?_)
      rw [nI_1', nI_1']
      exact r
    | false =>
      rw [c] at g
      rw [cnt_f c] at r
      refine xq_n 62 [0, 2, 3] [(0, .ref 39), (2, .int (nI (cnt W s))), (3, .int (nI s + Int32.ofInt 1))] [] h [false, true] 60 hq rfl ⟨rgf A m12 hs, g, trivial⟩ (fun _ => ?_)
      rw [nI_1']
      exact r
set_option maxRecDepth 100000 in
set_option maxHeartbeats 4000000 in
theorem ma10_q {f : Nat} {x : Int32} (m12 : mem ≤ 12) (e4 : xg 0 h.2.1 39 4 = nI mem) (e33 : xg 0 h.2.1 39 33 = nI sc) (sc8 : sc ≤ 8) (e3 : xg 0 h.2.1 39 3 = d) (hF : ∀ k, k < sc → xg 0 h.2.1 51 k = FR k) (hT : ∀ k, k < sc → (xg 0 h.2.1 52 k).toInt ≤ 999) (hR : ∀ k s, k < sc → s < 2 ^ mem → ∃ b : Bool, RW (4096 * k + s) = bl b ∧ xg 0 h.2.1 44 (4096 * k + s) = bl b) (hq : a_rq a_tb h) : xq f xi_X10_many xmi_X10_many 0 [(0, .ref 39), (1, .int x)] [] h (fun v h' => v = some (.int (maA (cvB FR RW mem sc d) mem x))) := by
  refine xq_n 6 [0, 1] [(0, .ref 39), (1, .int x)] [.ref 39] (xh_ui h 39 0 (Int32.ofInt 0)) [] 60 hq rfl trivial (fun _ => ?_)
  have hq : a_rq a_tb (xh_ui h 39 0 (Int32.ofInt 0)) := a_rq_ui hq
  refine xq_run hq rfl rfl (ly_q m12 e4 e33 sc8 e3 hF hT hR hq) ?_
  rintro v h1 ⟨rfl, g1, A⟩
  have hq := fx_q g1 hq
  refine xq_n 12 [0, 1, 2] [(0, .ref 39), (1, .int x), (2, .int (Int32.ofInt 0))] [.int x] h1 [] 60 hq rfl trivial (fun _ => ?_)
  refine xq_sw rfl (fun hx => ?_) (fun i off ho hx => ?_)
  · rw [maA_o hx]
    show xq f _ _ 153 _ _ _ _
    refine xq_n 154 [] [] [.int (Int32.ofInt (-1))] h1 [] 60 hq rfl trivial (fun _ => ?_)
    exact xq_ret rfl rfl rfl rfl
  · match i, ho with
    | 0, rfl =>
      rw [maA_i (by decide) hx]
      show xq f _ _ 60 _ _ _ _
      refine xq_n 62 [0, 2, 3] [(0, .ref 39), (2, .int (Int32.ofInt 0)), (3, .int (Int32.ofInt 0))] [] h1 [] 60 hq rfl trivial (fun _ => ?_)
      exact rca_l A m12 hq (2 ^ mem) f 0 (by omega)
    | 1, rfl =>
      rw [maA_i (by decide) hx]
      have ex : x = nI 1 := Int32.toInt_inj.mp (by rw [hx]; rfl)
      subst ex
      show xq f _ _ 90 _ _ _ _
      refine xq_n 92 [] [] [.int (nI 1), .ref 39] h1 [] 60 hq rfl trivial (fun _ => ?_)
      refine xq_run hq rfl rfl (rco_q A m12 hq) ?_
      rintro v h2 ⟨rfl, rfl⟩
      exact xq_ret rfl rfl rfl rfl
    | 2, rfl =>
      rw [maA_i (by decide) hx]
      have ex : x = nI 2 := Int32.toInt_inj.mp (by rw [hx]; rfl)
      subst ex
      show xq f _ _ 90 _ _ _ _
      refine xq_n 92 [] [] [.int (nI 2), .ref 39] h1 [] 60 hq rfl trivial (fun _ => ?_)
      refine xq_run hq rfl rfl (rco_q A m12 hq) ?_
      rintro v h2 ⟨rfl, rfl⟩
      exact xq_ret rfl rfl rfl rfl
    | 3, rfl =>
      rw [maA_i (by decide) hx]
      show xq f _ _ 96 _ _ _ _
      refine xq_n 98 [] [] [.int (Int32.ofInt 0), .ref 39] h1 [] 60 hq rfl trivial (fun _ => ?_)
      refine xq_run hq rfl rfl (rwh_q A m12 hq) ?_
      rintro v h2 ⟨rfl, rfl⟩
      refine xq_run hq rfl rfl (rso_q (s := ndN (mi (cvB FR RW mem sc d) mem false) (2 ^ mem) mem) (nd_lt m12) hq) ?_
      rintro v h2 ⟨rfl, rfl⟩
      exact xq_ret rfl rfl rfl rfl
    | 4, rfl =>
      rw [maA_i (by decide) hx]
      show xq f _ _ 105 _ _ _ _
      refine xq_n 107 [] [] [.int (Int32.ofInt 1), .ref 39] h1 [] 60 hq rfl trivial (fun _ => ?_)
      refine xq_run hq rfl rfl (rwh_q A m12 hq) ?_
      rintro v h2 ⟨rfl, rfl⟩
      refine xq_run hq rfl rfl (rso_q (s := idN (mi (cvB FR RW mem sc d) mem false) (2 ^ mem) mem) (id_lt m12) hq) ?_
      rintro v h2 ⟨rfl, rfl⟩
      exact xq_ret rfl rfl rfl rfl
    | 5, rfl =>
      rw [maA_i (by decide) hx]
      show xq f _ _ 114 _ _ _ _
      refine xq_n 115 [] [] [.ref 39] h1 [] 60 hq rfl trivial (fun _ => ?_)
      refine xq_run hq rfl rfl (rpr_q A m12 hq) ?_
      rintro v h2 ⟨rfl, rfl⟩
      show xq f _ _ _ _ _ _ (fun v h' => v = some (.int (bl (aln (prP (cvB FR RW mem sc d) mem) (2 ^ mem)))))
      cases aln (prP (cvB FR RW mem sc d) mem) (2 ^ mem) with
      | false =>
        refine xq_n 126 [] [] [.int (Int32.ofInt 0)] h1 [true] 60 hq rfl ⟨rfl, trivial⟩ (fun _ => ?_)
        exact xq_ret rfl rfl rfl rfl
      | true =>
        refine xq_n 126 [] [] [.int (Int32.ofInt 1)] h1 [false] 60 hq rfl ⟨rfl, trivial⟩ (fun _ => ?_)
        exact xq_ret rfl rfl rfl rfl
    | 6, rfl =>
      rw [maA_i (by decide) hx]
      show xq f _ _ 127 _ _ _ _
      refine xq_n 128 [] [] [.ref 39] h1 [] 60 hq rfl trivial (fun _ => ?_)
      refine xq_run hq rfl rfl (rstr_q A m12 hq) ?_
      rintro v h2 ⟨rfl, rfl⟩
      show xq f _ _ _ _ _ _ (fun v h' => v = some (.int (bl (aln (sgP (cvB FR RW mem sc d) mem) (2 ^ mem)))))
      cases aln (sgP (cvB FR RW mem sc d) mem) (2 ^ mem) with
      | false =>
        refine xq_n 139 [] [] [.int (Int32.ofInt 0)] h1 [true] 60 hq rfl ⟨rfl, trivial⟩ (fun _ => ?_)
        exact xq_ret rfl rfl rfl rfl
      | true =>
        refine xq_n 139 [] [] [.int (Int32.ofInt 1)] h1 [false] 60 hq rfl ⟨rfl, trivial⟩ (fun _ => ?_)
        exact xq_ret rfl rfl rfl rfl
    | 7, rfl =>
      rw [maA_i (by decide) hx]
      show xq f _ _ 140 _ _ _ _
      refine xq_n 141 [] [] [.ref 39] h1 [] 60 hq rfl trivial (fun _ => ?_)
      refine xq_run hq rfl rfl (rln_q A m12 hq) ?_
      rintro v h2 ⟨rfl, rfl⟩
      show xq f _ _ _ _ _ _ (fun v h' => v = some (.int (bl (lnd (cvB FR RW mem sc d) mem))))
      cases lnd (cvB FR RW mem sc d) mem with
      | false =>
        refine xq_n 152 [] [] [.int (Int32.ofInt 0)] h1 [true] 60 hq rfl ⟨rfl, trivial⟩ (fun _ => ?_)
        exact xq_ret rfl rfl rfl rfl
      | true =>
        refine xq_n 152 [] [] [.int (Int32.ofInt 1)] h1 [false] 60 hq rfl ⟨rfl, trivial⟩ (fun _ => ?_)
        exact xq_ret rfl rfl rfl rfl
    | n + 8, ho => cases ho
end
end XMR
