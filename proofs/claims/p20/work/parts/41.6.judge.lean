section XJG
theorem bl_o1 {a : Bool} : bl a ||| Int32.ofInt 1 = bl true := by cases a <;> rfl
theorem bl_o0 {a : Bool} : bl a ||| Int32.ofInt 0 = bl a := by cases a <;> rfl
theorem gt_le {a b : Int32} : xe_c .gt a b = !xe_c .le a b := by
  show decide (b < a) = !decide (a ≤ b)
  by_cases h : a ≤ b
  · rw [decide_eq_true h, decide_eq_false (fun z => absurd (Int32.lt_iff_toInt_lt.mp z) (by have := Int32.le_iff_toInt_le.mp h; omega))]
    rfl
  · rw [decide_eq_false h, decide_eq_true (Int32.lt_iff_toInt_lt.mpr (by have := mt Int32.le_iff_toInt_le.mpr h; omega))]
    rfl
theorem bit_sub {x s : Int32} : (s &&& (x ^^^ Int32.ofInt (-1)) = 0) ↔ (x &&& s = s) := by
  rw [← Int32.toBitVec_inj, ← Int32.toBitVec_inj, Int32.toBitVec_and, Int32.toBitVec_and, Int32.toBitVec_xor]
  have e1 : (Int32.ofInt (-1)).toBitVec = BitVec.allOnes 32 := by decide
  have e0 : (0 : Int32).toBitVec = 0#32 := rfl
  rw [e1, e0]
  constructor
  · intro h
    apply BitVec.eq_of_getLsbD_eq
    intro i hi
    have := congrArg (fun b => b.getLsbD i) h
    simp only [BitVec.getLsbD_and, BitVec.getLsbD_xor, BitVec.getLsbD_allOnes, BitVec.getLsbD_zero, hi, decide_true] at this
    rw [BitVec.getLsbD_and]
    revert this
    cases x.toBitVec.getLsbD i <;> cases s.toBitVec.getLsbD i <;> simp
  · intro h
    apply BitVec.eq_of_getLsbD_eq
    intro i hi
    have := congrArg (fun b => b.getLsbD i) h
    simp only [BitVec.getLsbD_and] at this
    simp only [BitVec.getLsbD_and, BitVec.getLsbD_xor, BitVec.getLsbD_allOnes, BitVec.getLsbD_zero, hi, decide_true]
    revert this
    cases x.toBitVec.getLsbD i <;> cases s.toBitVec.getLsbD i <;> simp
theorem sb_1 {x s : Int32} : xe_c .ne (s &&& (x ^^^ Int32.ofInt (-1))) 0 = xe_c .ne (x &&& s) s := by
  show (!decide _) = !decide _
  rw [decide_eq_decide.mpr bit_sub]
theorem sb_2 {x s : Int32} : xe_c .ne (x &&& (s ^^^ Int32.ofInt (-1))) 0 = xe_c .ne (x &&& s) x := by
  rw [sb_1, show s &&& x = x &&& s from Int32.and_comm _ _]
/-- what the votes say of a set on a day -/
def jg (S D P : Nat → Int32) (x t : Int32) : Nat → Nat → Bool → Bool → Int32
  | 0, _, a, b => cond a (cond b (Int32.ofInt 3) (Int32.ofInt 1)) (cond b (Int32.ofInt 0) (Int32.ofInt 2))
  | j + 1, i, a, b => cond (xe_c .gt (D i) t) (jg S D P x t j (i + 1) a b) (jg S D P x t j (i + 1) ((!xe_c .eq (P i) 0 && !xe_c .ne (S i &&& (x ^^^ Int32.ofInt (-1))) 0) || a) ((xe_c .eq (P i) 0 && !xe_c .ne (x &&& (S i ^^^ Int32.ofInt (-1))) 0) || b))
set_option maxRecDepth 100000 in
set_option maxHeartbeats 4000000 in
theorem jd9_l {f n : Nat} {S D P : Nat → Int32} {x t : Int32} {h : xh_H} (n6 : n ≤ 60) (e3 : xg 0 h.2.1 35 3 = nI n) (hA : ∀ k, k < n → xg 0 h.2.1 36 k = S k ∧ xg 0 h.2.1 37 k = D k ∧ xg 0 h.2.1 38 k = P k) (hq : a_rq a_tb h) : ∀ (j i : Nat) (a b : Bool), i + j = n → xq f xi_X1_judge xmi_X1_judge 8 [(0, .ref 35), (1, .int x), (2, .int t), (3, .int (bl a)), (4, .int (bl b)), (5, .int (nI i))] [] h (fun v h' => h = h' ∧ v = some (.int (jg S D P x t j i a b))) := by
  intro j
  induction j with
  | zero =>
    intro i a b ij
    cases c1 : xe_c .ge (nI i) (nI n) with
    | true =>
      have z1 : i ≥ n := nq_get (a := i) (b := n) (by omega) (by omega) c1
      cases b2 : a with
      | true =>
        cases b3 : b with
        | true =>
          refine xq_n 114 [] [] [.int (Int32.ofInt 3)] h [true, false, false] 12 hq rfl ⟨(show xe_c .ge (nI i) (xg 0 h.2.1 35 3) = true by rw [show (xg 0 h.2.1 35 3) = (nI n) from e3]; exact c1), rfl, rfl, trivial⟩ (fun hq => ?_)
          exact xq_ret rfl rfl rfl ⟨rfl, rfl⟩
        | false =>
          refine xq_n 114 [] [] [.int (Int32.ofInt 1)] h [true, false, true] 11 hq rfl ⟨(show xe_c .ge (nI i) (xg 0 h.2.1 35 3) = true by rw [show (xg 0 h.2.1 35 3) = (nI n) from e3]; exact c1), rfl, rfl, trivial⟩ (fun hq => ?_)
          exact xq_ret rfl rfl rfl ⟨rfl, rfl⟩
      | false =>
        cases b4 : b with
        | true =>
          refine xq_n 125 [] [] [.int (Int32.ofInt 0)] h [true, true, false] 12 hq rfl ⟨(show xe_c .ge (nI i) (xg 0 h.2.1 35 3) = true by rw [show (xg 0 h.2.1 35 3) = (nI n) from e3]; exact c1), rfl, rfl, trivial⟩ (fun hq => ?_)
          exact xq_ret rfl rfl rfl ⟨rfl, rfl⟩
        | false =>
          refine xq_n 125 [] [] [.int (Int32.ofInt 2)] h [true, true, true] 11 hq rfl ⟨(show xe_c .ge (nI i) (xg 0 h.2.1 35 3) = true by rw [show (xg 0 h.2.1 35 3) = (nI n) from e3]; exact c1), rfl, rfl, trivial⟩ (fun hq => ?_)
          exact xq_ret rfl rfl rfl ⟨rfl, rfl⟩
    | false =>
      have z1 : i < n := nq_gef (a := i) (b := n) (by omega) (by omega) c1
      omega
  | succ j ih =>
    intro i a b ij
    have hR : jg S D P x t (j + 1) i a b = cond (xe_c .gt (D i) t) (jg S D P x t j (i + 1) a b) (jg S D P x t j (i + 1) ((!xe_c .eq (P i) 0 && !xe_c .ne (S i &&& (x ^^^ Int32.ofInt (-1))) 0) || a) ((xe_c .eq (P i) 0 && !xe_c .ne (x &&& (S i ^^^ Int32.ofInt (-1))) 0) || b)) := rfl
    rw [hR]
    cases c1 : xe_c .ge (nI i) (nI n) with
    | true =>
      have z1 : i ≥ n := nq_get (a := i) (b := n) (by omega) (by omega) c1
      omega
    | false =>
      have z1 : i < n := nq_gef (a := i) (b := n) (by omega) (by omega) c1
      cases c2 : xe_c .gt (D i) t with
      | true =>
        refine xq_n 8 [0, 1, 2, 3, 4, 5] [(0, .ref 35), (1, .int x), (2, .int t), (3, .int (bl a)), (4, .int (bl b)), (5, .int ((nI i) + Int32.ofInt 1))] [] h [false, true] 14 hq rfl ⟨(show xe_c .ge (nI i) (xg 0 h.2.1 35 3) = false by rw [show (xg 0 h.2.1 35 3) = (nI n) from e3]; exact c1), (show xe_c .gt (xg 0 h.2.1 37 ((nI i).toNatClampNeg)) t = true by rw [show (xg 0 h.2.1 37 ((nI i).toNatClampNeg)) = (D i) from (by rw [show ((nI i).toNatClampNeg) = i from nI_clamp (by omega)]; exact (hA i (by omega)).2.1)]; exact c2), trivial⟩ (fun hq => ?_)
        rw [show ((nI i) + Int32.ofInt 1) = nI (i + 1) from nI_1 _]
        exact ih (i + 1) a b (by omega)
      | false =>
        cases c3 : xe_c .eq (P i) 0 with
        | true =>
          cases c4 : xe_c .ne (x &&& ((S i) ^^^ (Int32.ofInt (-1)))) 0 with
          | true =>
            refine xq_n 8 [0, 1, 2, 3, 4, 5] [(0, .ref 35), (1, .int x), (2, .int t), (3, .int ((bl a) ||| (Int32.ofInt 0))), (4, .int ((bl b) ||| (Int32.ofInt 0))), (5, .int ((nI i) + Int32.ofInt 1))] [] h [false, false, true, false, true] 41 hq rfl ⟨(show xe_c .ge (nI i) (xg 0 h.2.1 35 3) = false by rw [show (xg 0 h.2.1 35 3) = (nI n) from e3]; exact c1), (show xe_c .gt (xg 0 h.2.1 37 ((nI i).toNatClampNeg)) t = false by rw [show (xg 0 h.2.1 37 ((nI i).toNatClampNeg)) = (D i) from (by rw [show ((nI i).toNatClampNeg) = i from nI_clamp (by omega)]; exact (hA i (by omega)).2.1)]; exact c2), (show xe_c .eq (xg 0 h.2.1 38 ((nI i).toNatClampNeg)) 0 = true by rw [show (xg 0 h.2.1 38 ((nI i).toNatClampNeg)) = (P i) from (by rw [show ((nI i).toNatClampNeg) = i from nI_clamp (by omega)]; exact (hA i (by omega)).2.2)]; exact c3), (show xe_c .ne (xg 0 h.2.1 38 ((nI i).toNatClampNeg)) 0 = false by rw [show (xg 0 h.2.1 38 ((nI i).toNatClampNeg)) = (P i) from (by rw [show ((nI i).toNatClampNeg) = i from nI_clamp (by omega)]; exact (hA i (by omega)).2.2), xc_ne, c3]; rfl), (show xe_c .ne (x &&& ((xg 0 h.2.1 36 ((nI i).toNatClampNeg)) ^^^ (Int32.ofInt (-1)))) 0 = true by rw [show (xg 0 h.2.1 36 ((nI i).toNatClampNeg)) = (S i) from (by rw [show ((nI i).toNatClampNeg) = i from nI_clamp (by omega)]; exact (hA i (by omega)).1)]; exact c4), trivial⟩ (fun hq => ?_)
            rw [show ((bl a) ||| (Int32.ofInt 0)) = bl a from bl_o0]
            rw [show ((bl b) ||| (Int32.ofInt 0)) = bl b from bl_o0]
            rw [show ((nI i) + Int32.ofInt 1) = nI (i + 1) from nI_1 _]
            exact ih (i + 1) a b (by omega)
          | false =>
            refine xq_n 8 [0, 1, 2, 3, 4, 5] [(0, .ref 35), (1, .int x), (2, .int t), (3, .int ((bl a) ||| (Int32.ofInt 0))), (4, .int ((bl b) ||| (Int32.ofInt 1))), (5, .int ((nI i) + Int32.ofInt 1))] [] h [false, false, true, false, false] 42 hq rfl ⟨(show xe_c .ge (nI i) (xg 0 h.2.1 35 3) = false by rw [show (xg 0 h.2.1 35 3) = (nI n) from e3]; exact c1), (show xe_c .gt (xg 0 h.2.1 37 ((nI i).toNatClampNeg)) t = false by rw [show (xg 0 h.2.1 37 ((nI i).toNatClampNeg)) = (D i) from (by rw [show ((nI i).toNatClampNeg) = i from nI_clamp (by omega)]; exact (hA i (by omega)).2.1)]; exact c2), (show xe_c .eq (xg 0 h.2.1 38 ((nI i).toNatClampNeg)) 0 = true by rw [show (xg 0 h.2.1 38 ((nI i).toNatClampNeg)) = (P i) from (by rw [show ((nI i).toNatClampNeg) = i from nI_clamp (by omega)]; exact (hA i (by omega)).2.2)]; exact c3), (show xe_c .ne (xg 0 h.2.1 38 ((nI i).toNatClampNeg)) 0 = false by rw [show (xg 0 h.2.1 38 ((nI i).toNatClampNeg)) = (P i) from (by rw [show ((nI i).toNatClampNeg) = i from nI_clamp (by omega)]; exact (hA i (by omega)).2.2), xc_ne, c3]; rfl), (show xe_c .ne (x &&& ((xg 0 h.2.1 36 ((nI i).toNatClampNeg)) ^^^ (Int32.ofInt (-1)))) 0 = false by rw [show (xg 0 h.2.1 36 ((nI i).toNatClampNeg)) = (S i) from (by rw [show ((nI i).toNatClampNeg) = i from nI_clamp (by omega)]; exact (hA i (by omega)).1)]; exact c4), trivial⟩ (fun hq => ?_)
            rw [show ((bl b) ||| (Int32.ofInt 1)) = bl true from bl_o1]
            rw [show ((bl a) ||| (Int32.ofInt 0)) = bl a from bl_o0]
            rw [show ((nI i) + Int32.ofInt 1) = nI (i + 1) from nI_1 _]
            exact ih (i + 1) a true (by omega)
        | false =>
          cases c5 : xe_c .ne ((S i) &&& (x ^^^ (Int32.ofInt (-1)))) 0 with
          | true =>
            refine xq_n 8 [0, 1, 2, 3, 4, 5] [(0, .ref 35), (1, .int x), (2, .int t), (3, .int ((bl a) ||| (Int32.ofInt 0))), (4, .int ((bl b) ||| (Int32.ofInt 0))), (5, .int ((nI i) + Int32.ofInt 1))] [] h [false, false, false, true, true] 41 hq rfl ⟨(show xe_c .ge (nI i) (xg 0 h.2.1 35 3) = false by rw [show (xg 0 h.2.1 35 3) = (nI n) from e3]; exact c1), (show xe_c .gt (xg 0 h.2.1 37 ((nI i).toNatClampNeg)) t = false by rw [show (xg 0 h.2.1 37 ((nI i).toNatClampNeg)) = (D i) from (by rw [show ((nI i).toNatClampNeg) = i from nI_clamp (by omega)]; exact (hA i (by omega)).2.1)]; exact c2), (show xe_c .eq (xg 0 h.2.1 38 ((nI i).toNatClampNeg)) 0 = false by rw [show (xg 0 h.2.1 38 ((nI i).toNatClampNeg)) = (P i) from (by rw [show ((nI i).toNatClampNeg) = i from nI_clamp (by omega)]; exact (hA i (by omega)).2.2)]; exact c3), (show xe_c .ne ((xg 0 h.2.1 36 ((nI i).toNatClampNeg)) &&& (x ^^^ (Int32.ofInt (-1)))) 0 = true by rw [show (xg 0 h.2.1 36 ((nI i).toNatClampNeg)) = (S i) from (by rw [show ((nI i).toNatClampNeg) = i from nI_clamp (by omega)]; exact (hA i (by omega)).1)]; exact c5), (show xe_c .ne (xg 0 h.2.1 38 ((nI i).toNatClampNeg)) 0 = true by rw [show (xg 0 h.2.1 38 ((nI i).toNatClampNeg)) = (P i) from (by rw [show ((nI i).toNatClampNeg) = i from nI_clamp (by omega)]; exact (hA i (by omega)).2.2), xc_ne, c3]; rfl), trivial⟩ (fun hq => ?_)
            rw [show ((bl a) ||| (Int32.ofInt 0)) = bl a from bl_o0]
            rw [show ((bl b) ||| (Int32.ofInt 0)) = bl b from bl_o0]
            rw [show ((nI i) + Int32.ofInt 1) = nI (i + 1) from nI_1 _]
            exact ih (i + 1) a b (by omega)
          | false =>
            refine xq_n 8 [0, 1, 2, 3, 4, 5] [(0, .ref 35), (1, .int x), (2, .int t), (3, .int ((bl a) ||| (Int32.ofInt 1))), (4, .int ((bl b) ||| (Int32.ofInt 0))), (5, .int ((nI i) + Int32.ofInt 1))] [] h [false, false, false, false, true] 42 hq rfl ⟨(show xe_c .ge (nI i) (xg 0 h.2.1 35 3) = false by rw [show (xg 0 h.2.1 35 3) = (nI n) from e3]; exact c1), (show xe_c .gt (xg 0 h.2.1 37 ((nI i).toNatClampNeg)) t = false by rw [show (xg 0 h.2.1 37 ((nI i).toNatClampNeg)) = (D i) from (by rw [show ((nI i).toNatClampNeg) = i from nI_clamp (by omega)]; exact (hA i (by omega)).2.1)]; exact c2), (show xe_c .eq (xg 0 h.2.1 38 ((nI i).toNatClampNeg)) 0 = false by rw [show (xg 0 h.2.1 38 ((nI i).toNatClampNeg)) = (P i) from (by rw [show ((nI i).toNatClampNeg) = i from nI_clamp (by omega)]; exact (hA i (by omega)).2.2)]; exact c3), (show xe_c .ne ((xg 0 h.2.1 36 ((nI i).toNatClampNeg)) &&& (x ^^^ (Int32.ofInt (-1)))) 0 = false by rw [show (xg 0 h.2.1 36 ((nI i).toNatClampNeg)) = (S i) from (by rw [show ((nI i).toNatClampNeg) = i from nI_clamp (by omega)]; exact (hA i (by omega)).1)]; exact c5), (show xe_c .ne (xg 0 h.2.1 38 ((nI i).toNatClampNeg)) 0 = true by rw [show (xg 0 h.2.1 38 ((nI i).toNatClampNeg)) = (P i) from (by rw [show ((nI i).toNatClampNeg) = i from nI_clamp (by omega)]; exact (hA i (by omega)).2.2), xc_ne, c3]; rfl), trivial⟩ (fun hq => ?_)
            rw [show ((bl a) ||| (Int32.ofInt 1)) = bl true from bl_o1]
            rw [show ((bl b) ||| (Int32.ofInt 0)) = bl b from bl_o0]
            rw [show ((nI i) + Int32.ofInt 1) = nI (i + 1) from nI_1 _]
            exact ih (i + 1) true b (by omega)
set_option maxRecDepth 100000 in
set_option maxHeartbeats 4000000 in
theorem jd9_q {f n : Nat} {S D P : Nat → Int32} {x t : Int32} {h : xh_H} (n6 : n ≤ 60) (e3 : xg 0 h.2.1 35 3 = nI n) (hA : ∀ k, k < n → xg 0 h.2.1 36 k = S k ∧ xg 0 h.2.1 37 k = D k ∧ xg 0 h.2.1 38 k = P k) (hq : a_rq a_tb h) : xq f xi_X1_judge xmi_X1_judge 0 [(0, .ref 35), (1, .int x), (2, .int t)] [] h (fun v h' => h = h' ∧ v = some (.int (jg S D P x t n 0 false false))) := by
  refine xq_n 8 [0, 1, 2, 3, 4, 5] [(0, .ref 35), (1, .int x), (2, .int t), (3, .int (Int32.ofInt 0)), (4, .int (Int32.ofInt 0)), (5, .int (Int32.ofInt 0))] [] h [] 8 hq rfl trivial (fun hq => ?_)
  exact jd9_l n6 e3 hA hq n 0 false false (by omega)
set_option maxRecDepth 100000 in
set_option maxHeartbeats 4000000 in
theorem jd10_l {f n : Nat} {S D P : Nat → Int32} {x t : Int32} {h : xh_H} (n6 : n ≤ 60) (e3 : xg 0 h.2.1 39 63 = nI n) (hA : ∀ k, k < n → xg 0 h.2.1 68 k = S k ∧ xg 0 h.2.1 69 k = D k ∧ xg 0 h.2.1 70 k = P k) (hq : a_rq a_tb h) : ∀ (j i : Nat) (a b : Bool), i + j = n → xq f xi_X10_sureOf xmi_X10_sureOf 8 [(0, .ref 39), (1, .int x), (2, .int t), (3, .int (bl a)), (4, .int (bl b)), (5, .int (nI i))] [] h (fun v h' => h = h' ∧ v = some (.int (jg S D P x t j i a b))) := by
  intro j
  induction j with
  | zero =>
    intro i a b ij
    cases c1 : xe_c .ge (nI i) (nI n) with
    | true =>
      have z1 : i ≥ n := nq_get (a := i) (b := n) (by omega) (by omega) c1
      cases b2 : a with
      | true =>
        cases b3 : b with
        | true =>
          refine xq_n 121 [] [] [.int (Int32.ofInt 3)] h [true, false, false] 12 hq rfl ⟨(show xe_c .ge (nI i) (xg 0 h.2.1 39 63) = true by rw [show (xg 0 h.2.1 39 63) = (nI n) from e3]; exact c1), rfl, rfl, trivial⟩ (fun hq => ?_)
          exact xq_ret rfl rfl rfl ⟨rfl, rfl⟩
        | false =>
          refine xq_n 121 [] [] [.int (Int32.ofInt 1)] h [true, false, true] 12 hq rfl ⟨(show xe_c .ge (nI i) (xg 0 h.2.1 39 63) = true by rw [show (xg 0 h.2.1 39 63) = (nI n) from e3]; exact c1), rfl, rfl, trivial⟩ (fun hq => ?_)
          exact xq_ret rfl rfl rfl ⟨rfl, rfl⟩
      | false =>
        cases b4 : b with
        | true =>
          refine xq_n 121 [] [] [.int (Int32.ofInt 0)] h [true, true, false] 12 hq rfl ⟨(show xe_c .ge (nI i) (xg 0 h.2.1 39 63) = true by rw [show (xg 0 h.2.1 39 63) = (nI n) from e3]; exact c1), rfl, rfl, trivial⟩ (fun hq => ?_)
          exact xq_ret rfl rfl rfl ⟨rfl, rfl⟩
        | false =>
          refine xq_n 121 [] [] [.int (Int32.ofInt 2)] h [true, true, true] 11 hq rfl ⟨(show xe_c .ge (nI i) (xg 0 h.2.1 39 63) = true by rw [show (xg 0 h.2.1 39 63) = (nI n) from e3]; exact c1), rfl, rfl, trivial⟩ (fun hq => ?_)
          exact xq_ret rfl rfl rfl ⟨rfl, rfl⟩
    | false =>
      have z1 : i < n := nq_gef (a := i) (b := n) (by omega) (by omega) c1
      omega
  | succ j ih =>
    intro i a b ij
    have hR : jg S D P x t (j + 1) i a b = cond (!xe_c .le (D i) t) (jg S D P x t j (i + 1) a b) (jg S D P x t j (i + 1) ((!xe_c .eq (P i) 0 && !xe_c .ne (x &&& S i) (S i)) || a) ((xe_c .eq (P i) 0 && !xe_c .ne (x &&& S i) x) || b)) := by
      rw [← gt_le, ← sb_1, ← sb_2]
      rfl
    rw [hR]
    cases c1 : xe_c .ge (nI i) (nI n) with
    | true =>
      have z1 : i ≥ n := nq_get (a := i) (b := n) (by omega) (by omega) c1
      omega
    | false =>
      have z1 : i < n := nq_gef (a := i) (b := n) (by omega) (by omega) c1
      cases c2 : xe_c .le (D i) t with
      | true =>
        cases c3 : xe_c .eq (P i) 0 with
        | true =>
          cases c4 : xe_c .ne (x &&& (S i)) x with
          | true =>
            refine xq_n 8 [0, 1, 2, 3, 4, 5] [(0, .ref 39), (1, .int x), (2, .int t), (3, .int (bl a)), (4, .int (bl b)), (5, .int ((nI i) + Int32.ofInt 1))] [] h [false, true, true, false, true] 32 hq rfl ⟨(show xe_c .ge (nI i) (xg 0 h.2.1 39 63) = false by rw [show (xg 0 h.2.1 39 63) = (nI n) from e3]; exact c1), (show xe_c .le (xg 0 h.2.1 69 ((nI i).toNatClampNeg)) t = true by rw [show (xg 0 h.2.1 69 ((nI i).toNatClampNeg)) = (D i) from (by rw [show ((nI i).toNatClampNeg) = i from nI_clamp (by omega)]; exact (hA i (by omega)).2.1)]; exact c2), (show xe_c .eq (xg 0 h.2.1 70 ((nI i).toNatClampNeg)) 0 = true by rw [show (xg 0 h.2.1 70 ((nI i).toNatClampNeg)) = (P i) from (by rw [show ((nI i).toNatClampNeg) = i from nI_clamp (by omega)]; exact (hA i (by omega)).2.2)]; exact c3), (show xe_c .ne (xg 0 h.2.1 70 ((nI i).toNatClampNeg)) 0 = false by rw [show (xg 0 h.2.1 70 ((nI i).toNatClampNeg)) = (P i) from (by rw [show ((nI i).toNatClampNeg) = i from nI_clamp (by omega)]; exact (hA i (by omega)).2.2), xc_ne, c3]; rfl), (show xe_c .ne (x &&& (xg 0 h.2.1 68 ((nI i).toNatClampNeg))) x = true by rw [show (xg 0 h.2.1 68 ((nI i).toNatClampNeg)) = (S i) from (by rw [show ((nI i).toNatClampNeg) = i from nI_clamp (by omega)]; exact (hA i (by omega)).1)]; exact c4), trivial⟩ (fun hq => ?_)
            rw [show ((nI i) + Int32.ofInt 1) = nI (i + 1) from nI_1 _]
            exact ih (i + 1) a b (by omega)
          | false =>
            refine xq_n 8 [0, 1, 2, 3, 4, 5] [(0, .ref 39), (1, .int x), (2, .int t), (3, .int (bl a)), (4, .int (Int32.ofInt 1)), (5, .int ((nI i) + Int32.ofInt 1))] [] h [false, true, true, false, false] 34 hq rfl ⟨(show xe_c .ge (nI i) (xg 0 h.2.1 39 63) = false by rw [show (xg 0 h.2.1 39 63) = (nI n) from e3]; exact c1), (show xe_c .le (xg 0 h.2.1 69 ((nI i).toNatClampNeg)) t = true by rw [show (xg 0 h.2.1 69 ((nI i).toNatClampNeg)) = (D i) from (by rw [show ((nI i).toNatClampNeg) = i from nI_clamp (by omega)]; exact (hA i (by omega)).2.1)]; exact c2), (show xe_c .eq (xg 0 h.2.1 70 ((nI i).toNatClampNeg)) 0 = true by rw [show (xg 0 h.2.1 70 ((nI i).toNatClampNeg)) = (P i) from (by rw [show ((nI i).toNatClampNeg) = i from nI_clamp (by omega)]; exact (hA i (by omega)).2.2)]; exact c3), (show xe_c .ne (xg 0 h.2.1 70 ((nI i).toNatClampNeg)) 0 = false by rw [show (xg 0 h.2.1 70 ((nI i).toNatClampNeg)) = (P i) from (by rw [show ((nI i).toNatClampNeg) = i from nI_clamp (by omega)]; exact (hA i (by omega)).2.2), xc_ne, c3]; rfl), (show xe_c .ne (x &&& (xg 0 h.2.1 68 ((nI i).toNatClampNeg))) x = false by rw [show (xg 0 h.2.1 68 ((nI i).toNatClampNeg)) = (S i) from (by rw [show ((nI i).toNatClampNeg) = i from nI_clamp (by omega)]; exact (hA i (by omega)).1)]; exact c4), trivial⟩ (fun hq => ?_)
            rw [show ((nI i) + Int32.ofInt 1) = nI (i + 1) from nI_1 _]
            exact ih (i + 1) a true (by omega)
        | false =>
          cases c5 : xe_c .ne (x &&& (S i)) (S i) with
          | true =>
            refine xq_n 8 [0, 1, 2, 3, 4, 5] [(0, .ref 39), (1, .int x), (2, .int t), (3, .int (bl a)), (4, .int (bl b)), (5, .int ((nI i) + Int32.ofInt 1))] [] h [false, true, false, true, true] 35 hq rfl ⟨(show xe_c .ge (nI i) (xg 0 h.2.1 39 63) = false by rw [show (xg 0 h.2.1 39 63) = (nI n) from e3]; exact c1), (show xe_c .le (xg 0 h.2.1 69 ((nI i).toNatClampNeg)) t = true by rw [show (xg 0 h.2.1 69 ((nI i).toNatClampNeg)) = (D i) from (by rw [show ((nI i).toNatClampNeg) = i from nI_clamp (by omega)]; exact (hA i (by omega)).2.1)]; exact c2), (show xe_c .eq (xg 0 h.2.1 70 ((nI i).toNatClampNeg)) 0 = false by rw [show (xg 0 h.2.1 70 ((nI i).toNatClampNeg)) = (P i) from (by rw [show ((nI i).toNatClampNeg) = i from nI_clamp (by omega)]; exact (hA i (by omega)).2.2)]; exact c3), (show xe_c .ne (x &&& (xg 0 h.2.1 68 ((nI i).toNatClampNeg))) (xg 0 h.2.1 68 ((nI i).toNatClampNeg)) = true by rw [show (xg 0 h.2.1 68 ((nI i).toNatClampNeg)) = (S i) from (by rw [show ((nI i).toNatClampNeg) = i from nI_clamp (by omega)]; exact (hA i (by omega)).1)]; exact c5), (show xe_c .ne (xg 0 h.2.1 70 ((nI i).toNatClampNeg)) 0 = true by rw [show (xg 0 h.2.1 70 ((nI i).toNatClampNeg)) = (P i) from (by rw [show ((nI i).toNatClampNeg) = i from nI_clamp (by omega)]; exact (hA i (by omega)).2.2), xc_ne, c3]; rfl), trivial⟩ (fun hq => ?_)
            rw [show ((nI i) + Int32.ofInt 1) = nI (i + 1) from nI_1 _]
            exact ih (i + 1) a b (by omega)
          | false =>
            refine xq_n 8 [0, 1, 2, 3, 4, 5] [(0, .ref 39), (1, .int x), (2, .int t), (3, .int (Int32.ofInt 1)), (4, .int (bl b)), (5, .int ((nI i) + Int32.ofInt 1))] [] h [false, true, false, false, true] 37 hq rfl ⟨(show xe_c .ge (nI i) (xg 0 h.2.1 39 63) = false by rw [show (xg 0 h.2.1 39 63) = (nI n) from e3]; exact c1), (show xe_c .le (xg 0 h.2.1 69 ((nI i).toNatClampNeg)) t = true by rw [show (xg 0 h.2.1 69 ((nI i).toNatClampNeg)) = (D i) from (by rw [show ((nI i).toNatClampNeg) = i from nI_clamp (by omega)]; exact (hA i (by omega)).2.1)]; exact c2), (show xe_c .eq (xg 0 h.2.1 70 ((nI i).toNatClampNeg)) 0 = false by rw [show (xg 0 h.2.1 70 ((nI i).toNatClampNeg)) = (P i) from (by rw [show ((nI i).toNatClampNeg) = i from nI_clamp (by omega)]; exact (hA i (by omega)).2.2)]; exact c3), (show xe_c .ne (x &&& (xg 0 h.2.1 68 ((nI i).toNatClampNeg))) (xg 0 h.2.1 68 ((nI i).toNatClampNeg)) = false by rw [show (xg 0 h.2.1 68 ((nI i).toNatClampNeg)) = (S i) from (by rw [show ((nI i).toNatClampNeg) = i from nI_clamp (by omega)]; exact (hA i (by omega)).1)]; exact c5), (show xe_c .ne (xg 0 h.2.1 70 ((nI i).toNatClampNeg)) 0 = true by rw [show (xg 0 h.2.1 70 ((nI i).toNatClampNeg)) = (P i) from (by rw [show ((nI i).toNatClampNeg) = i from nI_clamp (by omega)]; exact (hA i (by omega)).2.2), xc_ne, c3]; rfl), trivial⟩ (fun hq => ?_)
            rw [show ((nI i) + Int32.ofInt 1) = nI (i + 1) from nI_1 _]
            exact ih (i + 1) true b (by omega)
      | false =>
        refine xq_n 8 [0, 1, 2, 3, 4, 5] [(0, .ref 39), (1, .int x), (2, .int t), (3, .int (bl a)), (4, .int (bl b)), (5, .int ((nI i) + Int32.ofInt 1))] [] h [false, false] 15 hq rfl ⟨(show xe_c .ge (nI i) (xg 0 h.2.1 39 63) = false by rw [show (xg 0 h.2.1 39 63) = (nI n) from e3]; exact c1), (show xe_c .le (xg 0 h.2.1 69 ((nI i).toNatClampNeg)) t = false by rw [show (xg 0 h.2.1 69 ((nI i).toNatClampNeg)) = (D i) from (by rw [show ((nI i).toNatClampNeg) = i from nI_clamp (by omega)]; exact (hA i (by omega)).2.1)]; exact c2), trivial⟩ (fun hq => ?_)
        rw [show ((nI i) + Int32.ofInt 1) = nI (i + 1) from nI_1 _]
        exact ih (i + 1) a b (by omega)
set_option maxRecDepth 100000 in
set_option maxHeartbeats 4000000 in
theorem jd10_q {f n : Nat} {S D P : Nat → Int32} {x t : Int32} {h : xh_H} (n6 : n ≤ 60) (e3 : xg 0 h.2.1 39 63 = nI n) (hA : ∀ k, k < n → xg 0 h.2.1 68 k = S k ∧ xg 0 h.2.1 69 k = D k ∧ xg 0 h.2.1 70 k = P k) (hq : a_rq a_tb h) : xq f xi_X10_sureOf xmi_X10_sureOf 0 [(0, .ref 39), (1, .int x), (2, .int t)] [] h (fun v h' => h = h' ∧ v = some (.int (jg S D P x t n 0 false false))) := by
  refine xq_n 8 [0, 1, 2, 3, 4, 5] [(0, .ref 39), (1, .int x), (2, .int t), (3, .int (Int32.ofInt 0)), (4, .int (Int32.ofInt 0)), (5, .int (Int32.ofInt 0))] [] h [] 8 hq rfl trivial (fun hq => ?_)
  exact jd10_l n6 e3 hA hq n 0 false false (by omega)
set_option maxRecDepth 100000 in
set_option maxHeartbeats 4000000 in
theorem su9_q {f n : Nat} {S D P : Nat → Int32} {x t z : Int32} {h : xh_H} (n6 : n ≤ 60) (e3 : xg 0 h.2.1 35 3 = nI n) (hA : ∀ k, k < n → xg 0 h.2.1 36 k = S k ∧ xg 0 h.2.1 37 k = D k ∧ xg 0 h.2.1 38 k = P k) (e9 : xg 0 h.2.1 0 9 = z) (hq : a_rq a_tb h) : xq f xi_X9_sure xmi_X9_sure 0 [(0, .ref 0), (1, .int x), (2, .int t)] [] h (fun v h' => v = some (.int (cond (!xe_c .lt x 0 && !xe_c .ge x (Int32.ofInt 1 <<< (z &&& 31))) (jg S D P x t n 0 false false) (Int32.ofInt (-1))))) := by
  refine xq_n 2 [0, 1, 2] [(0, .ref 0), (1, .int x), (2, .int t)] [.int x, .ref 0] h [] 4 hq rfl trivial (fun hq => ?_)
  refine xq_run hq rfl rfl (set9_q (x := x) (z := z) (e9) hq) ?_
  rintro _ h_ ⟨rfl, rfl⟩
  cases b1 : (!xe_c .lt x 0 && !xe_c .ge x (Int32.ofInt 1 <<< (z &&& 31))) with
  | true =>
    refine xq_n 14 [0, 1, 2] [(0, .ref 0), (1, .int x), (2, .int t)] [.int t, .int x, .ref 35] h [false] 7 hq rfl ⟨rfl, trivial⟩ (fun hq => ?_)
    refine xq_run hq rfl rfl (jd9_q (x := x) (t := t) n6 e3 hA hq) ?_
    rintro _ h_ ⟨rfl, rfl⟩
    refine xq_n 21 [] [] [.int (jg S D P x t n 0 false false)] h [] 3 hq rfl trivial (fun hq => ?_)
    exact xq_ret rfl rfl rfl rfl
  | false =>
    refine xq_n 21 [] [] [.int (Int32.ofInt (-1))] h [true] 4 hq rfl ⟨rfl, trivial⟩ (fun hq => ?_)
    exact xq_ret rfl rfl rfl rfl
set_option maxRecDepth 100000 in
set_option maxHeartbeats 4000000 in
theorem su10_q {f n : Nat} {S D P : Nat → Int32} {x t z : Int32} {h : xh_H} (n6 : n ≤ 60) (e3 : xg 0 h.2.1 39 63 = nI n) (hA : ∀ k, k < n → xg 0 h.2.1 68 k = S k ∧ xg 0 h.2.1 69 k = D k ∧ xg 0 h.2.1 70 k = P k) (e9 : xg 0 h.2.1 39 4 = z) (hq : a_rq a_tb h) : xq f xi_X10_sure xmi_X10_sure 0 [(0, .ref 39), (1, .int x), (2, .int t)] [] h (fun v h' => v = some (.int (cond (!xe_c .lt x 0 && !xe_c .ge x (Int32.ofInt 1 <<< (z &&& 31))) (jg S D P x t n 0 false false) (Int32.ofInt (-1))))) := by
  refine xq_n 7 [0, 1, 2] [(0, .ref 39), (1, .int x), (2, .int t)] [.int x, .ref 39] (xh_ui h 39 0 (Int32.ofInt 0)) [] 7 hq rfl trivial (fun _ => ?_)
  have hq : a_rq a_tb (xh_ui h 39 0 (Int32.ofInt 0)) := a_rq_ui hq
  refine xq_run hq rfl rfl (set10_q (x := x) (z := z) ((gx_k (by decide)).trans e9) hq) ?_
  rintro _ h_ ⟨rfl, rfl⟩
  cases b1 : (!xe_c .lt x 0 && !xe_c .ge x (Int32.ofInt 1 <<< (z &&& 31))) with
  | true =>
    refine xq_n 16 [0, 1, 2] [(0, .ref 39), (1, .int x), (2, .int t)] [.int t, .int x, .ref 39] (xh_ui h 39 0 (Int32.ofInt 0)) [false] 6 hq rfl ⟨rfl, trivial⟩ (fun hq => ?_)
    refine xq_run hq rfl rfl (jd10_q (x := x) (t := t) n6 ((gx_k (by decide)).trans e3) (fun k hk' => ⟨(gx_o (by decide)).trans (hA k hk').1, (gx_o (by decide)).trans (hA k hk').2.1, (gx_o (by decide)).trans (hA k hk').2.2⟩) hq) ?_
    rintro _ h_ ⟨rfl, rfl⟩
    refine xq_n 23 [] [] [.int (jg S D P x t n 0 false false)] (xh_ui h 39 0 (Int32.ofInt 0)) [] 3 hq rfl trivial (fun hq => ?_)
    exact xq_ret rfl rfl rfl rfl
  | false =>
    refine xq_n 23 [] [] [.int (Int32.ofInt (-1))] (xh_ui h 39 0 (Int32.ofInt 0)) [true] 4 hq rfl ⟨rfl, trivial⟩ (fun hq => ?_)
    exact xq_ret rfl rfl rfl rfl
theorem shl_n : ∀ m : Nat, m < 13 → (Int32.ofInt 1 <<< (nI m &&& 31) = nI (2 ^ m) ∧ 2 ^ m ≤ 4096) := by decide
/-- how many sets are open -/
def og (S D P : Nat → Int32) (t : Int32) (n : Nat) : Nat → Nat → Int32 → Int32
  | 0, _, c => c
  | j + 1, i, c => cond (xe_c .ne (jg S D P (nI i) t n 0 false false) (Int32.ofInt 2)) (og S D P t n j (i + 1) c) (og S D P t n j (i + 1) (c + Int32.ofInt 1))
set_option maxRecDepth 100000 in
set_option maxHeartbeats 4000000 in
theorem op9_l {f n m : Nat} {S D P : Nat → Int32} {t : Int32} {h : xh_H} (n6 : n ≤ 60) (m12 : m ≤ 12) (e3 : xg 0 h.2.1 35 3 = nI n) (hA : ∀ k, k < n → xg 0 h.2.1 36 k = S k ∧ xg 0 h.2.1 37 k = D k ∧ xg 0 h.2.1 38 k = P k) (e9 : xg 0 h.2.1 0 9 = nI m) (hq : a_rq a_tb h) : ∀ (j i : Nat) (c : Int32), i + j = 2 ^ m → xq f xi_X9_open xmi_X9_open 4 [(0, .ref 0), (1, .int t), (2, .int c), (3, .int (nI i))] [] h (fun v h' => h = h' ∧ v = some (.int (og S D P t n j i c))) := by
  have m40 := (shl_n m (by omega)).2
  intro j
  induction j with
  | zero =>
    intro i c ij
    cases c1 : xe_c .ge (nI i) (nI (2 ^ m)) with
    | true =>
      have z1 : i ≥ (2 ^ m) := nq_get (a := i) (b := (2 ^ m)) (by omega) (by omega) c1
      refine xq_n 37 [] [] [.int c] h [true] 9 hq rfl ⟨(show xe_c .ge (nI i) ((Int32.ofInt 1) <<< ((xg 0 h.2.1 0 9) &&& 31)) = true by rw [show (xg 0 h.2.1 0 9) = (nI m) from e9, show ((Int32.ofInt 1) <<< ((nI m) &&& 31)) = nI (2 ^ m) from (shl_n m (by omega)).1]; exact c1), trivial⟩ (fun hq => ?_)
      exact xq_ret rfl rfl rfl ⟨rfl, rfl⟩
    | false =>
      have z1 : i < (2 ^ m) := nq_gef (a := i) (b := (2 ^ m)) (by omega) (by omega) c1
      omega
  | succ j ih =>
    intro i c ij
    have hR : og S D P t n (j + 1) i c = cond (xe_c .ne (jg S D P (nI i) t n 0 false false) (Int32.ofInt 2)) (og S D P t n j (i + 1) c) (og S D P t n j (i + 1) (c + Int32.ofInt 1)) := rfl
    rw [hR]
    cases c1 : xe_c .ge (nI i) (nI (2 ^ m)) with
    | true =>
      have z1 : i ≥ (2 ^ m) := nq_get (a := i) (b := (2 ^ m)) (by omega) (by omega) c1
      omega
    | false =>
      have z1 : i < (2 ^ m) := nq_gef (a := i) (b := (2 ^ m)) (by omega) (by omega) c1
      refine xq_n 20 [0, 1, 2, 3] [(0, .ref 0), (1, .int t), (2, .int c), (3, .int (nI i))] [.int t, .int (nI i), .ref 35] h [false] 12 hq rfl ⟨(show xe_c .ge (nI i) ((Int32.ofInt 1) <<< ((xg 0 h.2.1 0 9) &&& 31)) = false by rw [show (xg 0 h.2.1 0 9) = (nI m) from e9, show ((Int32.ofInt 1) <<< ((nI m) &&& 31)) = nI (2 ^ m) from (shl_n m (by omega)).1]; exact c1), trivial⟩ (fun hq => ?_)
      refine xq_run hq rfl rfl (jd9_q (x := nI i) (t := t) n6 e3 hA hq) ?_
      rintro _ h_ ⟨rfl, rfl⟩
      cases c2 : xe_c .ne (jg S D P (nI i) t n 0 false false) (Int32.ofInt 2) with
      | true =>
        refine xq_n 4 [0, 1, 2, 3] [(0, .ref 0), (1, .int t), (2, .int c), (3, .int ((nI i) + Int32.ofInt 1))] [] h [true] 6 hq rfl ⟨c2, trivial⟩ (fun hq => ?_)
        rw [show ((nI i) + Int32.ofInt 1) = nI (i + 1) from nI_1 _]
        exact ih (i + 1) (c) (by omega)
      | false =>
        refine xq_n 4 [0, 1, 2, 3] [(0, .ref 0), (1, .int t), (2, .int (c + Int32.ofInt 1)), (3, .int ((nI i) + Int32.ofInt 1))] [] h [false] 7 hq rfl ⟨c2, trivial⟩ (fun hq => ?_)
        rw [show ((nI i) + Int32.ofInt 1) = nI (i + 1) from nI_1 _]
        exact ih (i + 1) (c + Int32.ofInt 1) (by omega)
set_option maxRecDepth 100000 in
set_option maxHeartbeats 4000000 in
theorem op9_q {f n m : Nat} {S D P : Nat → Int32} {t : Int32} {h : xh_H} (n6 : n ≤ 60) (m12 : m ≤ 12) (e3 : xg 0 h.2.1 35 3 = nI n) (hA : ∀ k, k < n → xg 0 h.2.1 36 k = S k ∧ xg 0 h.2.1 37 k = D k ∧ xg 0 h.2.1 38 k = P k) (e9 : xg 0 h.2.1 0 9 = nI m) (hq : a_rq a_tb h) : xq f xi_X9_open xmi_X9_open 0 [(0, .ref 0), (1, .int t)] [] h (fun v h' => v = some (.int (og S D P t n (2 ^ m) 0 (Int32.ofInt 0)))) := by
  refine xq_n 4 [0, 1, 2, 3] [(0, .ref 0), (1, .int t), (2, .int (Int32.ofInt 0)), (3, .int (Int32.ofInt 0))] [] h [] 6 hq rfl trivial (fun hq => ?_)
  refine xq_mono (op9_l n6 m12 e3 hA e9 hq (2 ^ m) 0 (Int32.ofInt 0) (by omega)) (fun v h' e => e.2)
set_option maxRecDepth 100000 in
set_option maxHeartbeats 4000000 in
theorem op10_l {f n m : Nat} {S D P : Nat → Int32} {t : Int32} {h : xh_H} (n6 : n ≤ 60) (m12 : m ≤ 12) (e3 : xg 0 h.2.1 39 63 = nI n) (hA : ∀ k, k < n → xg 0 h.2.1 68 k = S k ∧ xg 0 h.2.1 69 k = D k ∧ xg 0 h.2.1 70 k = P k) (e9 : xg 0 h.2.1 39 4 = nI m) (hq : a_rq a_tb h) : ∀ (j i : Nat) (c : Int32), i + j = 2 ^ m → xq f xi_X10_open xmi_X10_open 9 [(0, .ref 39), (1, .int t), (2, .int c), (3, .int (nI i))] [] h (fun v h' => h = h' ∧ v = some (.int (og S D P t n j i c))) := by
  have m40 := (shl_n m (by omega)).2
  intro j
  induction j with
  | zero =>
    intro i c ij
    cases c1 : xe_c .ge (nI i) (nI (2 ^ m)) with
    | true =>
      have z1 : i ≥ (2 ^ m) := nq_get (a := i) (b := (2 ^ m)) (by omega) (by omega) c1
      refine xq_n 39 [] [] [.int c] h [true] 9 hq rfl ⟨(show xe_c .ge (nI i) ((Int32.ofInt 1) <<< ((xg 0 h.2.1 39 4) &&& 31)) = true by rw [show (xg 0 h.2.1 39 4) = (nI m) from e9, show ((Int32.ofInt 1) <<< ((nI m) &&& 31)) = nI (2 ^ m) from (shl_n m (by omega)).1]; exact c1), trivial⟩ (fun hq => ?_)
      exact xq_ret rfl rfl rfl ⟨rfl, rfl⟩
    | false =>
      have z1 : i < (2 ^ m) := nq_gef (a := i) (b := (2 ^ m)) (by omega) (by omega) c1
      omega
  | succ j ih =>
    intro i c ij
    have hR : og S D P t n (j + 1) i c = cond (xe_c .ne (jg S D P (nI i) t n 0 false false) (Int32.ofInt 2)) (og S D P t n j (i + 1) c) (og S D P t n j (i + 1) (c + Int32.ofInt 1)) := rfl
    rw [hR]
    cases c1 : xe_c .ge (nI i) (nI (2 ^ m)) with
    | true =>
      have z1 : i ≥ (2 ^ m) := nq_get (a := i) (b := (2 ^ m)) (by omega) (by omega) c1
      omega
    | false =>
      have z1 : i < (2 ^ m) := nq_gef (a := i) (b := (2 ^ m)) (by omega) (by omega) c1
      refine xq_n 22 [0, 1, 2, 3] [(0, .ref 39), (1, .int t), (2, .int c), (3, .int (nI i))] [.int t, .int (nI i), .ref 39] h [false] 11 hq rfl ⟨(show xe_c .ge (nI i) ((Int32.ofInt 1) <<< ((xg 0 h.2.1 39 4) &&& 31)) = false by rw [show (xg 0 h.2.1 39 4) = (nI m) from e9, show ((Int32.ofInt 1) <<< ((nI m) &&& 31)) = nI (2 ^ m) from (shl_n m (by omega)).1]; exact c1), trivial⟩ (fun hq => ?_)
      refine xq_run hq rfl rfl (jd10_q (x := nI i) (t := t) n6 e3 hA hq) ?_
      rintro _ h_ ⟨rfl, rfl⟩
      cases c2 : xe_c .ne (jg S D P (nI i) t n 0 false false) (Int32.ofInt 2) with
      | true =>
        refine xq_n 9 [0, 1, 2, 3] [(0, .ref 39), (1, .int t), (2, .int c), (3, .int ((nI i) + Int32.ofInt 1))] [] h [true] 6 hq rfl ⟨c2, trivial⟩ (fun hq => ?_)
        rw [show ((nI i) + Int32.ofInt 1) = nI (i + 1) from nI_1 _]
        exact ih (i + 1) (c) (by omega)
      | false =>
        refine xq_n 9 [0, 1, 2, 3] [(0, .ref 39), (1, .int t), (2, .int (c + Int32.ofInt 1)), (3, .int ((nI i) + Int32.ofInt 1))] [] h [false] 7 hq rfl ⟨c2, trivial⟩ (fun hq => ?_)
        rw [show ((nI i) + Int32.ofInt 1) = nI (i + 1) from nI_1 _]
        exact ih (i + 1) (c + Int32.ofInt 1) (by omega)
set_option maxRecDepth 100000 in
set_option maxHeartbeats 4000000 in
theorem op10_q {f n m : Nat} {S D P : Nat → Int32} {t : Int32} {h : xh_H} (n6 : n ≤ 60) (m12 : m ≤ 12) (e3 : xg 0 h.2.1 39 63 = nI n) (hA : ∀ k, k < n → xg 0 h.2.1 68 k = S k ∧ xg 0 h.2.1 69 k = D k ∧ xg 0 h.2.1 70 k = P k) (e9 : xg 0 h.2.1 39 4 = nI m) (hq : a_rq a_tb h) : xq f xi_X10_open xmi_X10_open 0 [(0, .ref 39), (1, .int t)] [] h (fun v h' => v = some (.int (og S D P t n (2 ^ m) 0 (Int32.ofInt 0)))) := by
  refine xq_n 9 [0, 1, 2, 3] [(0, .ref 39), (1, .int t), (2, .int (Int32.ofInt 0)), (3, .int (Int32.ofInt 0))] [] (xh_ui h 39 0 (Int32.ofInt 0)) [] 9 hq rfl trivial (fun _ => ?_)
  have hq : a_rq a_tb (xh_ui h 39 0 (Int32.ofInt 0)) := a_rq_ui hq
  refine xq_mono (op10_l n6 m12 ((gx_k (by decide)).trans e3) (fun k hk' => ⟨(gx_o (by decide)).trans (hA k hk').1, (gx_o (by decide)).trans (hA k hk').2.1, (gx_o (by decide)).trans (hA k hk').2.2⟩) ((gx_k (by decide)).trans e9) hq (2 ^ m) 0 (Int32.ofInt 0) (by omega)) (fun v h' e => e.2)
end XJG
