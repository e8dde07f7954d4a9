section XSA
/-- the j-th of them below n -/
def sl (P : Nat → Bool) (N j : Nat) : Nat → Int32
  | 0 => Int32.ofInt (-1)
  | n + 1 => if qp P N n = true ∧ cnt (qp P N) n = j then nI (n % N) else sl P N j n
theorem sl_u {P : Nat → Bool} {N j p : Nat} (h : qp P N p = true) (e : cnt (qp P N) p = j) : ∀ n, p < n → sl P N j n = nI (p % N) := by
  intro n
  induction n with
  | zero => intro h; omega
  | succ n ih =>
    intro hn
    show (if _ then _ else _) = _
    by_cases z : p = n
    · rw [← z, if_pos ⟨h, e⟩]
    · rw [if_neg (fun y => ?_), ih (by omega)]
      have := cnt_lt h (show p < n by omega)
      omega
theorem sl_n {P : Nat → Bool} {N j : Nat} : ∀ n, cnt (qp P N) n ≤ j → sl P N j n = Int32.ofInt (-1) := by
  intro n
  induction n with
  | zero => intro _; rfl
  | succ n ih =>
    intro h
    have m := cnt_m (P := qp P N) (show n ≤ n + 1 by omega)
    show (if _ then _ else _) = _
    rw [if_neg (fun y => ?_), ih (by omega)]
    rw [cnt_t y.1] at h
    omega
theorem sz_m {m s : Nat} (m12 : m ≤ 12) (hs : s < 2 ^ m) : sz s ≤ m := by
  unfold sz
  rw [show (12 : Nat) = m + (12 - m) by omega, cnt_ad, cnt_c (P' := fun _ => false) (12 - m) (fun k _ => ?_)]
  · have z : ∀ n, cnt (fun _ => false) n = 0 := fun n => by
      induction n with
      | zero => rfl
      | succ n ih => rw [cnt_f rfl]; exact ih
    rw [z]
    exact cnt_le m
  · exact Nat.testBit_lt_two_pow (Nat.lt_of_lt_of_le hs (Nat.pow_le_pow_right (by decide) (by omega)))
theorem cum_hi {P : Nat → Bool} {m : Nat} (m12 : m ≤ 12) : ∀ j, m + 1 ≤ j → cum P (2 ^ m) j = cum P (2 ^ m) (m + 1) := by
  intro j
  induction j with
  | zero => intro h; omega
  | succ j ih =>
    intro h
    by_cases z : j = m
    · rw [z]
    · show cum P (2 ^ m) j + cnt (qk P j) (2 ^ m) = _
      rw [ih (by omega), cnt_c (P' := fun _ => false) (2 ^ m) (fun k hk' => by
        have := sz_m m12 hk'
        unfold qk
        rw [decide_eq_false (by omega), Bool.and_false])]
      have z : ∀ n, cnt (fun _ => false) n = 0 := fun n => by
        induction n with
        | zero => rfl
        | succ n ih => rw [cnt_f rfl]; exact ih
      rw [z]
      rfl
theorem cq_tot {P : Nat → Bool} {m : Nat} (m12 : m ≤ 12) : cnt (qp P (2 ^ m)) (2 ^ m * (m + 1)) = cnt P (2 ^ m) := by
  rw [cq_k, ← cum_hi m12 13 (by omega), cum_13]
/-- what setAt answers -/
def seV (W : Nat → Bool) (m : Nat) (y : Int32) : Nat → Int32
  | 0 => if y.toInt < 0 then Int32.ofInt (-1) else sl (mi W m false) (2 ^ m) y.toInt.toNat (2 ^ m * (m + 1))
  | 1 => if y.toInt < 0 then Int32.ofInt (-1) else sl (mi W m true) (2 ^ m) y.toInt.toNat (2 ^ m * (m + 1))
  | 2 => cond (xe_c .ne y 0) (Int32.ofInt (-1)) (nI (ndN (mi W m false) (2 ^ m) m))
  | _ => cond (xe_c .ne y 0) (Int32.ofInt (-1)) (nI (idN (mi W m false) (2 ^ m) m))
def seA (W : Nat → Bool) (m : Nat) (x y : Int32) : Int32 := if x.toInt < 1 ∨ 4 < x.toInt then Int32.ofInt (-1) else seV W m y (x.toInt - 1).toNat
theorem seA_o {W : Nat → Bool} {m : Nat} {x y : Int32} (h : x.toInt < 1 ∨ 4 < x.toInt) : seA W m x y = Int32.ofInt (-1) := if_pos h
theorem seA_i {W : Nat → Bool} {m : Nat} {x y : Int32} {i : Nat} (i4 : i < 4) (h : x.toInt = 1 + (i : Int)) : seA W m x y = seV W m y i := by
  unfold seA
  rw [if_neg (by omega), show (x.toInt - 1).toNat = i by omega]
/-- the row's place is the order's -/
theorem row_sl {W : Nat → Bool} {m c j : Nat} {hd : Bool} {h : xh_H} (m12 : m ≤ 12) (M : Wm W m) (R : rwQ (mi W m hd) (2 ^ m) c h) (hj : j < cnt (mi W m hd) (2 ^ m)) : xg 0 h.2.1 c j = sl (mi W m hd) (2 ^ m) j (2 ^ m * (m + 1)) := by
  obtain ⟨t, t1, t2, t3, t4⟩ := (rw_all m12 M R).2 j hj
  rw [rk_q t1] at t3
  have s1 := sz_m m12 t1
  have q1 : qp (mi W m hd) (2 ^ m) (2 ^ m * sz t + t) = true := by rw [qp_k t1]; exact qk_s t2
  have lt : 2 ^ m * sz t + t < 2 ^ m * (m + 1) := by
    have a : 2 ^ m * (sz t + 1) ≤ 2 ^ m * (m + 1) := Nat.mul_le_mul_left _ (by omega)
    rw [Nat.mul_succ] at a
    omega
  rw [t4, sl_u q1 t3 _ lt, Nat.mul_add_mod, Nat.mod_eq_of_lt t1]
section
variable {mem sc : Nat} {d : Int32} {h : xh_H}
set_option maxRecDepth 100000 in
set_option maxHeartbeats 4000000 in
theorem sa9_q {f : Nat} {x y : Int32} (hi : a_inv a_tb h) (hn : 72 ≤ h.1.length) (e9 : xg 0 h.2.1 0 9 = nI mem) (m1 : 1 ≤ mem) (m12 : mem ≤ 12) (e8 : xg 0 h.2.1 0 8 = nI sc) (sc8 : sc ≤ 8) (e10 : xg 0 h.2.1 0 10 = d) (si : SI h) (pi : PI h) (M : Wm (cvB (fun k => xg 0 h.2.1 51 k) (fun k => xg 0 h.2.1 44 k) mem sc d) mem) : xq f xi_X9_setAt xmi_X9_setAt 0 [(0, .ref 0), (1, .int x), (2, .int y)] [] h (fun v h' => v = some (.int (seA (cvB (fun k => xg 0 h.2.1 51 k) (fun k => xg 0 h.2.1 44 k) mem sc d) mem x y)) ∧ PI h') := by
  have hq := a_rq_of hi.1 hn
  have p12 : 2 ^ mem ≤ 4096 := show 2 ^ mem ≤ 2 ^ 12 from Nat.pow_le_pow_right (by decide) m12
  refine xq_n 1 [1, 2] [(1, .int x), (2, .int y)] [.ref 0] h [] 60 hq rfl trivial (fun _ => ?_)
  refine xq_run hq rfl rfl (pt9_q hi hn e9 m1 m12 e8 sc8 e10 si pi) ?_
  rintro v h1 ⟨rfl, Y, PP, q, r, A, P⟩
  have hq1 := Yf_q hi hn Y
  obtain ⟨n1, n2⟩ := nd_e m12 M P
  refine xq_n 6 [2, 3] [(2, .int y), (3, .ref 14)] [.int x] h1 [] 60 hq1 rfl trivial (fun _ => ?_)
  refine xq_sw rfl (fun hx => ?_) (fun i off ho hx => ?_)
  · rw [seA_o hx]
    show xq f _ _ 108 _ _ _ _
    refine xq_n 109 [] [] [.int (Int32.ofInt (-1))] h1 [] 60 hq1 rfl trivial (fun _ => ?_)
    exact xq_ret rfl rfl rfl ⟨rfl, PP⟩
  · match i, ho with
    | 0, rfl =>
      rw [seA_i (by decide) hx]
      show xq f _ _ 36 _ _ _ (fun v h' => v = some (.int (if y.toInt < 0 then Int32.ofInt (-1) else sl (mi (cvB (fun k => xg 0 h.2.1 51 k) (fun k => xg 0 h.2.1 44 k) mem sc d) mem false) (2 ^ mem) y.toInt.toNat (2 ^ mem * (mem + 1)))) ∧ PI h')
      cases c1 : xe_c .lt y 0 with
      | true =>
        have b1 : y.toInt < (0 : Int) := a_ce c1
        refine xq_n 58 [] [] [.int (Int32.ofInt (-1))] h1 [true] 60 hq1 rfl ⟨c1, trivial⟩ (fun _ => ?_)
        exact xq_ret rfl rfl rfl ⟨by rw [if_pos b1], PP⟩
      | false =>
        have b1 : (0 : Int) ≤ y.toInt := a_ce (a_neg_ok c1)
        rw [if_neg (by omega)]
        have eL := (P.2.2.1.1).trans (congrArg nI (lcn_e (hd := false) m12 M))
        have cl := mi_924 (hd := false) m12 M
        have eLi : (xg 0 h1.2.1 14 9).toInt = ((cnt (mi (cvB (fun k => xg 0 h.2.1 51 k) (fun k => xg 0 h.2.1 44 k) mem sc d) mem false) (2 ^ mem) : Nat) : Int) := by rw [eL, nI_toInt (by omega)]
        cases c2 : xe_c .ge y (xg 0 h1.2.1 14 9) with
        | true =>
          have b2 : (xg 0 h1.2.1 14 9).toInt ≤ y.toInt := a_ce c2
          refine xq_n 58 [] [] [.int (Int32.ofInt (-1))] h1 [false, true] 60 hq1 rfl ⟨c1, c2, trivial⟩ (fun _ => ?_)
          exact xq_ret rfl rfl rfl ⟨by rw [sl_n _ (by rw [cq_tot m12]; omega)], PP⟩
        | false =>
          have b2 : y.toInt < (xg 0 h1.2.1 14 9).toInt := a_ce (a_neg_ok c2)
          refine xq_n 58 [] [] [.int (xg 0 h1.2.1 15 y.toNatClampNeg)] h1 [false, false] 60 hq1 rfl ⟨c1, c2, trivial⟩ (fun _ => ?_)
          exact xq_ret rfl rfl rfl ⟨by rw [show y.toNatClampNeg = y.toInt.toNat from rfl, row_sl m12 M P.2.2.1.2 (by omega)], PP⟩
    | 1, rfl =>
      rw [seA_i (by decide) hx]
      show xq f _ _ 59 _ _ _ (fun v h' => v = some (.int (if y.toInt < 0 then Int32.ofInt (-1) else sl (mi (cvB (fun k => xg 0 h.2.1 51 k) (fun k => xg 0 h.2.1 44 k) mem sc d) mem true) (2 ^ mem) y.toInt.toNat (2 ^ mem * (mem + 1)))) ∧ PI h')
      cases c1 : xe_c .lt y 0 with
      | true =>
        have b1 : y.toInt < (0 : Int) := a_ce c1
        refine xq_n 81 [] [] [.int (Int32.ofInt (-1))] h1 [true] 60 hq1 rfl ⟨c1, trivial⟩ (fun _ => ?_)
        exact xq_ret rfl rfl rfl ⟨by rw [if_pos b1], PP⟩
      | false =>
        have b1 : (0 : Int) ≤ y.toInt := a_ce (a_neg_ok c1)
        rw [if_neg (by omega)]
        have eL := (P.2.2.2.1.1).trans (congrArg nI (lcn_e (hd := true) m12 M))
        have cl := mi_924 (hd := true) m12 M
        have eLi : (xg 0 h1.2.1 14 10).toInt = ((cnt (mi (cvB (fun k => xg 0 h.2.1 51 k) (fun k => xg 0 h.2.1 44 k) mem sc d) mem true) (2 ^ mem) : Nat) : Int) := by rw [eL, nI_toInt (by omega)]
        cases c2 : xe_c .ge y (xg 0 h1.2.1 14 10) with
        | true =>
          have b2 : (xg 0 h1.2.1 14 10).toInt ≤ y.toInt := a_ce c2
          refine xq_n 81 [] [] [.int (Int32.ofInt (-1))] h1 [false, true] 60 hq1 rfl ⟨c1, c2, trivial⟩ (fun _ => ?_)
          exact xq_ret rfl rfl rfl ⟨by rw [sl_n _ (by rw [cq_tot m12]; omega)], PP⟩
        | false =>
          have b2 : y.toInt < (xg 0 h1.2.1 14 10).toInt := a_ce (a_neg_ok c2)
          refine xq_n 81 [] [] [.int (xg 0 h1.2.1 16 y.toNatClampNeg)] h1 [false, false] 60 hq1 rfl ⟨c1, c2, trivial⟩ (fun _ => ?_)
          exact xq_ret rfl rfl rfl ⟨by rw [show y.toNatClampNeg = y.toInt.toNat from rfl, row_sl m12 M P.2.2.2.1.2 (by omega)], PP⟩
    | 2, rfl =>
      rw [seA_i (by decide) hx]
      show xq f _ _ 82 _ _ _ (fun v h' => v = some (.int (cond (xe_c .ne y 0) (Int32.ofInt (-1)) (nI (ndN (mi (cvB (fun k => xg 0 h.2.1 51 k) (fun k => xg 0 h.2.1 44 k) mem sc d) mem false) (2 ^ mem) mem)))) ∧ PI h')
      cases c1 : xe_c .ne y 0 with
      | true =>
        refine xq_n 94 [] [] [.int (Int32.ofInt (-1))] h1 [true] 60 hq1 rfl ⟨c1, trivial⟩ (fun _ => ?_)
        exact xq_ret rfl rfl rfl ⟨rfl, PP⟩
      | false =>
        refine xq_n 94 [] [] [.int (xg 0 h1.2.1 14 11)] h1 [false] 60 hq1 rfl ⟨c1, trivial⟩ (fun _ => ?_)
        exact xq_ret rfl rfl rfl ⟨by rw [n1]; rfl, PP⟩
    | 3, rfl =>
      rw [seA_i (by decide) hx]
      show xq f _ _ 95 _ _ _ (fun v h' => v = some (.int (cond (xe_c .ne y 0) (Int32.ofInt (-1)) (nI (idN (mi (cvB (fun k => xg 0 h.2.1 51 k) (fun k => xg 0 h.2.1 44 k) mem sc d) mem false) (2 ^ mem) mem)))) ∧ PI h')
      cases c1 : xe_c .ne y 0 with
      | true =>
        refine xq_n 107 [] [] [.int (Int32.ofInt (-1))] h1 [true] 60 hq1 rfl ⟨c1, trivial⟩ (fun _ => ?_)
        exact xq_ret rfl rfl rfl ⟨rfl, PP⟩
      | false =>
        refine xq_n 107 [] [] [.int (xg 0 h1.2.1 14 12)] h1 [false] 60 hq1 rfl ⟨c1, trivial⟩ (fun _ => ?_)
        exact xq_ret rfl rfl rfl ⟨by rw [n2]; rfl, PP⟩
    | n + 4, ho => cases ho
end
section
variable {W : Nat → Bool} {m j : Nat} {x : Int32} {h : xh_H}
set_option maxRecDepth 100000 in
set_option maxHeartbeats 4000000 in
theorem rsa_in (A : RA W m h) (m12 : m ≤ 12) (j31 : j < 2 ^ 31) (hq : a_rq a_tb h) {i : Nat} (hi : i ≤ m) (K : ∀ f, cnt (qp (mi W m (xe_c .ne x (Int32.ofInt 1))) (2 ^ m)) (2 ^ m * (i + 1)) ≤ j → xq f xi_X10_setAt xmi_X10_setAt 57 [(0, .ref 39), (1, .int x), (3, .int (nI (j - cnt (qp (mi W m (xe_c .ne x (Int32.ofInt 1))) (2 ^ m)) (2 ^ m * (i + 1))))), (4, .int (nI (i + 1)))] [] h (fun v h' => v = some (.int (sl (mi W m (xe_c .ne x (Int32.ofInt 1))) (2 ^ m) j (2 ^ m * (m + 1)))))) : ∀ (n f s : Nat), s + n = 2 ^ m → cnt (qp (mi W m (xe_c .ne x (Int32.ofInt 1))) (2 ^ m)) (2 ^ m * i + s) ≤ j → xq f xi_X10_setAt xmi_X10_setAt 69 [(0, .ref 39), (1, .int x), (3, .int (nI (j - cnt (qp (mi W m (xe_c .ne x (Int32.ofInt 1))) (2 ^ m)) (2 ^ m * i + s)))), (4, .int (nI i)), (5, .int (nI s))] [] h (fun v h' => v = some (.int (sl (mi W m (xe_c .ne x (Int32.ofInt 1))) (2 ^ m) j (2 ^ m * (m + 1))))) := by
  have p12 : 2 ^ m ≤ 4096 := show 2 ^ m ≤ 2 ^ 12 from Nat.pow_le_pow_right (by decide) m12
  intro n
  induction n with
  | zero =>
    intro f s sn w
    have e : s = 2 ^ m := by omega
    subst e
    refine xq_n 57 [0, 1, 3, 4] [(0, .ref 39), (1, .int x), (3, .int (nI (j - cnt (qp (mi W m (xe_c .ne x (Int32.ofInt 1))) (2 ^ m)) (2 ^ m * i + 2 ^ m)))), (4, .int (nI i + Int32.ofInt 1))] [] h [true] 60 hq rfl ⟨rgt A m12, trivial⟩ (fun _ => ?_)
    rw [nI_1', ← Nat.mul_succ]
    exact K f (by rw [← Nat.mul_succ] at w; exact w)
  | succ n ih =>
    intro f s sn w
    have hs : s < 2 ^ m := by omega
    have r := ih f (s + 1) (by omega)
    rw [show 2 ^ m * i + (s + 1) = 2 ^ m * i + s + 1 from rfl] at r
    have eq := qp_k (P := (mi W m (xe_c .ne x (Int32.ofInt 1)))) (k := i) hs
    refine xq_n 80 [0, 1, 3, 4, 5] [(0, .ref 39), (1, .int x), (3, .int (nI (j - cnt (qp (mi W m (xe_c .ne x (Int32.ofInt 1))) (2 ^ m)) (2 ^ m * i + s)))), (4, .int (nI i)), (5, .int (nI s))] [.int (nI s)] h [false] 60 hq rfl ⟨rgf A m12 hs, trivial⟩ (fun _ => ?_)
    refine xq_run hq rfl rfl (rso_q (by omega) hq) ?_
    rintro v h1 ⟨rfl, rfl⟩
    have sl' := sz_le (s := s)
    by_cases z : sz s = i
    · refine xq_n 92 [0, 1, 3, 4, 5] [(0, .ref 39), (1, .int x), (3, .int (nI (j - cnt (qp (mi W m (xe_c .ne x (Int32.ofInt 1))) (2 ^ m)) (2 ^ m * i + s)))), (4, .int (nI i)), (5, .int (nI s))] [.int x, .int (nI s), .ref 39] h [false] 60 hq rfl ⟨nne_f (by omega) (by omega) z, trivial⟩ (fun _ => ?_)
      refine xq_run hq rfl rfl (rik_q A m12 hs hq) ?_
      rintro v h1 ⟨rfl, rfl⟩
      cases c : (mi W m (xe_c .ne x (Int32.ofInt 1))) s with
      | false =>
        have q0 : qp (mi W m (xe_c .ne x (Int32.ofInt 1))) (2 ^ m) (2 ^ m * i + s) = false := by rw [eq]; unfold qk; rw [c]; rfl
        rw [cnt_f q0] at r
        refine xq_n 69 [0, 1, 3, 4, 5] [(0, .ref 39), (1, .int x), (3, .int (nI (j - cnt (qp (mi W m (xe_c .ne x (Int32.ofInt 1))) (2 ^ m)) (2 ^ m * i + s)))), (4, .int (nI i)), (5, .int (nI s + Int32.ofInt 1))] [] h [false] 60 hq rfl ⟨rfl, trivial⟩ (fun _ => ?_)
        rw [nI_1']
        exact r w
      | true =>
        have q1 : qp (mi W m (xe_c .ne x (Int32.ofInt 1))) (2 ^ m) (2 ^ m * i + s) = true := by rw [eq]; unfold qk; rw [c, decide_eq_true z]; rfl
        rw [cnt_t q1] at r
        by_cases y : cnt (qp (mi W m (xe_c .ne x (Int32.ofInt 1))) (2 ^ m)) (2 ^ m * i + s) = j
        · have lt : 2 ^ m * i + s < 2 ^ m * (m + 1) := by
            have a : 2 ^ m * (i + 1) ≤ 2 ^ m * (m + 1) := Nat.mul_le_mul_left _ (by omega)
            rw [Nat.mul_succ] at a
            omega
          refine xq_n 107 [] [] [.int (nI s)] h [true, false] 60 hq rfl ⟨rfl, nne_f (b := 0) (by omega) (by decide) (by omega), trivial⟩ (fun _ => ?_)
          exact xq_ret rfl rfl rfl (by rw [sl_u q1 y _ lt, Nat.mul_add_mod, Nat.mod_eq_of_lt hs])
        · refine xq_n 69 [0, 1, 3, 4, 5] [(0, .ref 39), (1, .int x), (3, .int (nI (j - cnt (qp (mi W m (xe_c .ne x (Int32.ofInt 1))) (2 ^ m)) (2 ^ m * i + s)) + Int32.ofInt (-1))), (4, .int (nI i)), (5, .int (nI s + Int32.ofInt 1))] [] h [true, true] 60 hq rfl ⟨rfl, nne_t (b := 0) (by omega) (by decide) (by omega), trivial⟩ (fun _ => ?_)
          rw [nI_1', show j - cnt (qp (mi W m (xe_c .ne x (Int32.ofInt 1))) (2 ^ m)) (2 ^ m * i + s) = (j - (cnt (qp (mi W m (xe_c .ne x (Int32.ofInt 1))) (2 ^ m)) (2 ^ m * i + s) + 1)) + 1 by omega, nI_dec]
          exact r (by omega)
    · have q0 : qp (mi W m (xe_c .ne x (Int32.ofInt 1))) (2 ^ m) (2 ^ m * i + s) = false := by rw [eq]; unfold qk; rw [decide_eq_false z, Bool.and_false]
      rw [cnt_f q0] at r
      refine xq_n 69 [0, 1, 3, 4, 5] [(0, .ref 39), (1, .int x), (3, .int (nI (j - cnt (qp (mi W m (xe_c .ne x (Int32.ofInt 1))) (2 ^ m)) (2 ^ m * i + s)))), (4, .int (nI i)), (5, .int (nI s + Int32.ofInt 1))] [] h [true] 60 hq rfl ⟨nne_t (by omega) (by omega) z, trivial⟩ (fun _ => ?_)
      rw [nI_1']
      exact r w
set_option maxRecDepth 100000 in
set_option maxHeartbeats 4000000 in
theorem rsa_l (A : RA W m h) (m12 : m ≤ 12) (j31 : j < 2 ^ 31) (hq : a_rq a_tb h) : ∀ (n f i : Nat), i + n = m + 1 → cnt (qp (mi W m (xe_c .ne x (Int32.ofInt 1))) (2 ^ m)) (2 ^ m * i) ≤ j → xq f xi_X10_setAt xmi_X10_setAt 57 [(0, .ref 39), (1, .int x), (3, .int (nI (j - cnt (qp (mi W m (xe_c .ne x (Int32.ofInt 1))) (2 ^ m)) (2 ^ m * i)))), (4, .int (nI i))] [] h (fun v h' => v = some (.int (sl (mi W m (xe_c .ne x (Int32.ofInt 1))) (2 ^ m) j (2 ^ m * (m + 1))))) := by
  intro n
  induction n with
  | zero =>
    intro f i hn w
    have e : i = m + 1 := by omega
    subst e
    refine xq_n 124 [] [] [.int (Int32.ofInt (-1))] h [true] 60 hq rfl ⟨(show xe_c .gt (nI (m + 1)) (xg 0 h.2.1 39 4) = true by rw [A.1]; exact xgt_t (by rw [nI_toInt (by omega), nI_toInt (by omega)]; omega)), trivial⟩ (fun _ => ?_)
    exact xq_ret rfl rfl rfl (by rw [sl_n _ w])
  | succ n ih =>
    intro f i hn w
    refine xq_n 69 [0, 1, 3, 4, 5] [(0, .ref 39), (1, .int x), (3, .int (nI (j - cnt (qp (mi W m (xe_c .ne x (Int32.ofInt 1))) (2 ^ m)) (2 ^ m * i)))), (4, .int (nI i)), (5, .int (Int32.ofInt 0))] [] h [false] 60 hq rfl ⟨(show xe_c .gt (nI i) (xg 0 h.2.1 39 4) = false by rw [A.1]; exact xgt_f (by rw [nI_toInt (by omega), nI_toInt (by omega)]; omega)), trivial⟩ (fun _ => ?_)
    exact rsa_in A m12 j31 hq (by omega) (fun f w => ih f (i + 1) (by omega) w) (2 ^ m) f 0 (by omega) w
end
section
variable {mem sc : Nat} {FR RW : Nat → Int32} {d : Int32} {h : xh_H}
set_option maxRecDepth 100000 in
set_option maxHeartbeats 4000000 in
theorem sa10_q {f : Nat} {x y : Int32} (m12 : mem ≤ 12) (e4 : xg 0 h.2.1 39 4 = nI mem) (e33 : xg 0 h.2.1 39 33 = nI sc) (sc8 : sc ≤ 8) (e3 : xg 0 h.2.1 39 3 = d) (hF : ∀ k, k < sc → xg 0 h.2.1 51 k = FR k) (hT : ∀ k, k < sc → (xg 0 h.2.1 52 k).toInt ≤ 999) (hR : ∀ k s, k < sc → s < 2 ^ mem → ∃ b : Bool, RW (4096 * k + s) = bl b ∧ xg 0 h.2.1 44 (4096 * k + s) = bl b) (hq : a_rq a_tb h) : xq f xi_X10_setAt xmi_X10_setAt 0 [(0, .ref 39), (1, .int x), (2, .int y)] [] h (fun v h' => v = some (.int (seA (cvB FR RW mem sc d) mem x y))) := by
  refine xq_n 8 [0, 1, 2] [(0, .ref 39), (1, .int x), (2, .int y)] [.int (Int32.ofInt 4), .int (Int32.ofInt 1), .int x] (xh_ui h 39 0 (Int32.ofInt 0)) [] 60 hq rfl trivial (fun _ => ?_)
  have hq : a_rq a_tb (xh_ui h 39 0 (Int32.ofInt 0)) := a_rq_ui hq
  refine xq_run hq rfl rfl (isIn_q hq) ?_
  rintro v h2 ⟨rfl, rfl⟩
  by_cases z : (Int32.ofInt 1).toInt ≤ x.toInt ∧ x.toInt ≤ (Int32.ofInt 4).toInt
  · have z' : (1 : Int) ≤ x.toInt ∧ x.toInt ≤ (4 : Int) := z
    rw [decide_eq_true z]
    cases c2 : xe_c .ge y 0 with
    | false =>
      have b2 : y.toInt < (0 : Int) := a_ce (a_neg_ok c2)
      refine xq_n 19 [] [] [.int (Int32.ofInt (-1))] (xh_ui h 39 0 (Int32.ofInt 0)) [false, false] 60 hq rfl ⟨rfl, c2, trivial⟩ (fun _ => ?_)
      refine xq_ret rfl rfl rfl ?_
      have yn : xe_c .ne y 0 = true := by
        cases c3 : xe_c .ne y 0 with
        | true => rfl
        | false =>
          have : y.toInt = (0 : Int) := a_ce (a_neg_ok c3)
          omega
      obtain ⟨i, i4, hx⟩ : ∃ i : Nat, i < 4 ∧ x.toInt = 1 + (i : Int) := ⟨(x.toInt - 1).toNat, by omega, by omega⟩
      rw [seA_i i4 hx]
      match i, i4 with
      | 0, _ => show _ = some (Value.int (if _ then _ else _)); rw [if_pos b2]
      | 1, _ => show _ = some (Value.int (if _ then _ else _)); rw [if_pos b2]
      | 2, _ => show _ = some (Value.int (cond _ _ _)); rw [yn]; rfl
      | 3, _ => show _ = some (Value.int (cond _ _ _)); rw [yn]; rfl
    | true =>
      have b2 : (0 : Int) ≤ y.toInt := a_ce c2
      have y31 := (ar_rng y).2
      have yN : nI y.toInt.toNat = y := Int32.toInt_inj.mp (by rw [nI_toInt (by omega)]; omega)
      refine xq_n 21 [0, 1, 2] [(0, .ref 39), (1, .int x), (2, .int y)] [.ref 39] (xh_ui h 39 0 (Int32.ofInt 0)) [false, true] 60 hq rfl ⟨rfl, c2, trivial⟩ (fun _ => ?_)
      refine xq_run hq rfl rfl (ly_q m12 e4 e33 sc8 e3 hF hT hR hq) ?_
      rintro v h1 ⟨rfl, g1, A⟩
      have hq := fx_q g1 hq
      obtain ⟨i, i4, hx⟩ : ∃ i : Nat, i < 4 ∧ x.toInt = 1 + (i : Int) := ⟨(x.toInt - 1).toNat, by omega, by omega⟩
      match i, hx, i4 with
      | 0, hx, _ =>
        have ex : x = nI 1 := Int32.toInt_inj.mp (by rw [hx]; rfl)
        subst ex
        rw [seA_i (i := 0) (by decide) hx]
        show xq f _ _ _ _ _ _ (fun v h' => v = some (.int (if y.toInt < 0 then Int32.ofInt (-1) else sl (mi (cvB FR RW mem sc d) mem false) (2 ^ mem) y.toInt.toNat (2 ^ mem * (mem + 1)))))
        rw [if_neg (by omega)]
        refine xq_n 57 [0, 1, 3, 4] [(0, .ref 39), (1, .int (nI 1)), (3, .int y), (4, .int (Int32.ofInt 0))] [] h1 [true] 60 hq rfl ⟨rfl, trivial⟩ (fun _ => ?_)
        have r := rsa_l (x := nI 1) (j := y.toInt.toNat) A m12 (by omega) hq (mem + 1) f 0 (by omega) (Nat.zero_le _)
        rw [show nI (y.toInt.toNat - cnt (qp (mi (cvB FR RW mem sc d) mem (xe_c .ne (nI 1) (Int32.ofInt 1))) (2 ^ mem)) (2 ^ mem * 0)) = y from yN] at r
        exact r
      | 1, hx, _ =>
        have ex : x = nI 2 := Int32.toInt_inj.mp (by rw [hx]; rfl)
        subst ex
        rw [seA_i (i := 1) (by decide) hx]
        show xq f _ _ _ _ _ _ (fun v h' => v = some (.int (if y.toInt < 0 then Int32.ofInt (-1) else sl (mi (cvB FR RW mem sc d) mem true) (2 ^ mem) y.toInt.toNat (2 ^ mem * (mem + 1)))))
        rw [if_neg (by omega)]
        refine xq_n 57 [0, 1, 3, 4] [(0, .ref 39), (1, .int (nI 2)), (3, .int y), (4, .int (Int32.ofInt 0))] [] h1 [true] 60 hq rfl ⟨rfl, trivial⟩ (fun _ => ?_)
        have r := rsa_l (x := nI 2) (j := y.toInt.toNat) A m12 (by omega) hq (mem + 1) f 0 (by omega) (Nat.zero_le _)
        rw [show nI (y.toInt.toNat - cnt (qp (mi (cvB FR RW mem sc d) mem (xe_c .ne (nI 2) (Int32.ofInt 1))) (2 ^ mem)) (2 ^ mem * 0)) = y from yN] at r
        exact r
      | 2, hx, _ =>
        have ex : x = nI 3 := Int32.toInt_inj.mp (by rw [hx]; rfl)
        subst ex
        rw [seA_i (i := 2) (by decide) hx]
        show xq f _ _ _ _ _ _ (fun v h' => v = some (.int (cond (xe_c .ne y 0) (Int32.ofInt (-1)) (nI (ndN (mi (cvB FR RW mem sc d) mem false) (2 ^ mem) mem)))))
        cases c3 : xe_c .ne y 0 with
        | true =>
          refine xq_n 51 [] [] [.int (Int32.ofInt (-1))] h1 [false, true] 60 hq rfl ⟨rfl, c3, trivial⟩ (fun _ => ?_)
          exact xq_ret rfl rfl rfl rfl
        | false =>
          refine xq_n 44 [] [] [.int (Int32.ofInt 0), .ref 39] h1 [false, false, true] 60 hq rfl ⟨rfl, c3, rfl, trivial⟩ (fun _ => ?_)
          refine xq_run hq rfl rfl (rwh_q A m12 hq) ?_
          rintro v h2 ⟨rfl, rfl⟩
          refine xq_n 51 [] [] [.int (nI (ndN (mi (cvB FR RW mem sc d) mem false) (2 ^ mem) mem))] h1 [] 60 hq rfl trivial (fun _ => ?_)
          exact xq_ret rfl rfl rfl rfl
      | 3, hx, _ =>
        have ex : x = nI 4 := Int32.toInt_inj.mp (by rw [hx]; rfl)
        subst ex
        rw [seA_i (i := 3) (by decide) hx]
        show xq f _ _ _ _ _ _ (fun v h' => v = some (.int (cond (xe_c .ne y 0) (Int32.ofInt (-1)) (nI (idN (mi (cvB FR RW mem sc d) mem false) (2 ^ mem) mem)))))
        cases c3 : xe_c .ne y 0 with
        | true =>
          refine xq_n 51 [] [] [.int (Int32.ofInt (-1))] h1 [false, true] 60 hq rfl ⟨rfl, c3, trivial⟩ (fun _ => ?_)
          exact xq_ret rfl rfl rfl rfl
        | false =>
          refine xq_n 44 [] [] [.int (Int32.ofInt 1), .ref 39] h1 [false, false, false] 60 hq rfl ⟨rfl, c3, rfl, trivial⟩ (fun _ => ?_)
          refine xq_run hq rfl rfl (rwh_q A m12 hq) ?_
          rintro v h2 ⟨rfl, rfl⟩
          refine xq_n 51 [] [] [.int (nI (idN (mi (cvB FR RW mem sc d) mem false) (2 ^ mem) mem))] h1 [] 60 hq rfl trivial (fun _ => ?_)
          exact xq_ret rfl rfl rfl rfl
  · rw [decide_eq_false z]
    have z' : ¬ ((1 : Int) ≤ x.toInt ∧ x.toInt ≤ (4 : Int)) := z
    refine xq_n 19 [] [] [.int (Int32.ofInt (-1))] (xh_ui h 39 0 (Int32.ofInt 0)) [true] 60 hq rfl ⟨rfl, trivial⟩ (fun _ => ?_)
    exact xq_ret rfl rfl rfl (by rw [seA_o (by omega)])
end
end XSA
