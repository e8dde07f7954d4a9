section XMA
section
variable {W : Nat → Bool} {m q r : Nat} {h : xh_H}
set_option maxRecDepth 100000 in
set_option maxHeartbeats 4000000 in
/-- Powers.countCarrying -/
theorem cca_l (A : LA W m q r h) (m12 : m ≤ 12) (hq : a_rq a_tb h) : ∀ (n f s : Nat), s + n = 2 ^ m → xq f xi_X2_countCarrying xmi_X2_countCarrying 4 [(0, .ref 14), (1, .int (nI (cnt W s))), (2, .int (nI s))] [] h (fun v h' => h = h' ∧ v = some (.int (nI (cnt W (2 ^ m))))) := by
  intro n
  induction n with
  | zero =>
    intro f s sn
    have e : s = 2 ^ m := by omega
    subst e
    refine xq_n 33 [] [] [.int (nI (cnt W (2 ^ m)))] h [true] 60 hq rfl ⟨gtt A m12, trivial⟩ (fun _ => ?_)
    exact xq_ret rfl rfl rfl ⟨rfl, rfl⟩
  | succ n ih =>
    intro f s sn
    have r := ih f (s + 1) (by omega)
    refine xq_n 17 [0, 1, 2] [(0, .ref 14), (1, .int (nI (cnt W s))), (2, .int (nI s))] [.int (nI s), va_rf (xg none h.2.2.2 14 6)] h [false] 60 hq rfl ⟨gtf A m12 (by omega), trivial⟩ (fun _ => ?_)
    rw [A.1]
    refine xq_cr (As := [.ref q, .int (nI (s))]) (mj := xmi_X7_holds) (q := []) rfl rfl (fun _ _ => rfl) (xa_cs_ok (d := 0) (pc := 0) (lv := []) (nL := 0) A.2.1 rfl).1 (fun f => hl_q A m12 (by omega) hq) ?_
    rintro v h1 ⟨rfl, rfl⟩
    cases c : W s with
    | true =>
      rw [cnt_t c] at r
      refine xq_n 4 [0, 1, 2] [(0, .ref 14), (1, .int (nI (cnt W s) + Int32.ofInt 1)), (2, .int (nI s + Int32.ofInt 1))] [] h [false] 60 hq rfl ⟨rfl, trivial⟩ (fun _ => ?_)
      rw [nI_1', nI_1']
      exact r
    | false =>
      rw [cnt_f c] at r
      refine xq_n 4 [0, 1, 2] [(0, .ref 14), (1, .int (nI (cnt W s))), (2, .int (nI s + Int32.ofInt 1))] [] h [true] 60 hq rfl ⟨rfl, trivial⟩ (fun _ => ?_)
      rw [nI_1']
      exact r
theorem cca_q {f : Nat} (A : LA W m q r h) (m12 : m ≤ 12) (hq : a_rq a_tb h) : xq f xi_X2_countCarrying xmi_X2_countCarrying 0 [(0, .ref 14)] [] h (fun v h' => h = h' ∧ v = some (.int (nI (cnt W (2 ^ m))))) := by
  refine xq_n 4 [0, 1, 2] [(0, .ref 14), (1, .int (Int32.ofInt 0)), (2, .int (Int32.ofInt 0))] [] h [] 60 hq rfl trivial (fun _ => ?_)
  exact cca_l A m12 hq (2 ^ m) f 0 (by omega)
/-- a set and all others -/
def prP (W : Nat → Bool) (m s : Nat) : Bool := !(W s && W (co m s))
def sgP (W : Nat → Bool) (m s : Nat) : Bool := W s || W (co m s)
set_option maxRecDepth 100000 in
set_option maxHeartbeats 4000000 in
theorem ipr_l (A : LA W m q r h) (m12 : m ≤ 12) (hq : a_rq a_tb h) : ∀ (n f s : Nat), s + n = 2 ^ m → aln (prP W m) s = true → xq f xi_X2_isProper xmi_X2_isProper 2 [(0, .ref 14), (1, .int (nI s))] [] h (fun v h' => h = h' ∧ v = some (.int (bl (aln (prP W m) (2 ^ m))))) := by
  intro n
  induction n with
  | zero =>
    intro f s sn w
    have e : s = 2 ^ m := by omega
    subst e
    refine xq_n 48 [] [] [.int (Int32.ofInt 1)] h [true] 60 hq rfl ⟨gtt A m12, trivial⟩ (fun _ => ?_)
    exact xq_ret rfl rfl rfl ⟨rfl, by rw [w]; rfl⟩
  | succ n ih =>
    intro f s sn w
    have hs : s < 2 ^ m := by omega
    refine xq_n 15 [0, 1] [(0, .ref 14), (1, .int (nI s))] [.int (nI s), va_rf (xg none h.2.2.2 14 6)] h [false] 60 hq rfl ⟨gtf A m12 hs, trivial⟩ (fun _ => ?_)
    rw [A.1]
    refine xq_cr (As := [.ref q, .int (nI (s))]) (mj := xmi_X7_holds) (q := []) rfl rfl (fun _ _ => rfl) (xa_cs_ok (d := 0) (pc := 0) (lv := []) (nL := 0) A.2.1 rfl).1 (fun f => hl_q A m12 (hs) hq) ?_
    rintro v h1 ⟨rfl, rfl⟩
    cases c : W s with
    | false =>
      refine xq_n 2 [0, 1] [(0, .ref 14), (1, .int (nI s + Int32.ofInt 1))] [] h [true] 60 hq rfl ⟨rfl, trivial⟩ (fun _ => ?_)
      rw [nI_1']
      exact ih f (s + 1) (by omega) (aln_s w (by unfold prP; rw [c]; rfl))
    | true =>
      refine xq_n 33 [0, 1] [(0, .ref 14), (1, .int (nI s))] [.int (xg 0 h.2.1 14 8 &&& (nI s ^^^ Int32.ofInt (-1))), va_rf (xg none h.2.2.2 14 6)] h [false] 60 hq rfl ⟨rfl, trivial⟩ (fun _ => ?_)
      rw [A.1, A.2.2.2.2.2.1, coc_n m12 hs]
      refine xq_cr (As := [.ref q, .int (nI (co m s))]) (mj := xmi_X7_holds) (q := []) rfl rfl (fun _ _ => rfl) (xa_cs_ok (d := 0) (pc := 0) (lv := []) (nL := 0) A.2.1 rfl).1 (fun f => hl_q A m12 (co_lt) hq) ?_
      rintro v h1 ⟨rfl, rfl⟩
      cases c2 : W (co m s) with
      | false =>
        refine xq_n 2 [0, 1] [(0, .ref 14), (1, .int (nI s + Int32.ofInt 1))] [] h [true] 60 hq rfl ⟨rfl, trivial⟩ (fun _ => ?_)
        rw [nI_1']
        exact ih f (s + 1) (by omega) (aln_s w (by unfold prP; rw [c, c2]; rfl))
      | true =>
        refine xq_n 40 [] [] [.int (Int32.ofInt 0)] h [false] 60 hq rfl ⟨rfl, trivial⟩ (fun _ => ?_)
        exact xq_ret rfl rfl rfl ⟨rfl, by rw [aln_f (show prP W m s = false by unfold prP; rw [c, c2]; rfl) (2 ^ m) hs]; rfl⟩
theorem ipr_q {f : Nat} (A : LA W m q r h) (m12 : m ≤ 12) (hq : a_rq a_tb h) : xq f xi_X2_isProper xmi_X2_isProper 0 [(0, .ref 14)] [] h (fun v h' => h = h' ∧ v = some (.int (bl (aln (prP W m) (2 ^ m))))) := by
  refine xq_n 2 [0, 1] [(0, .ref 14), (1, .int (Int32.ofInt 0))] [] h [] 60 hq rfl trivial (fun _ => ?_)
  exact ipr_l A m12 hq (2 ^ m) f 0 (by omega) rfl
set_option maxRecDepth 100000 in
set_option maxHeartbeats 4000000 in
theorem isg_l (A : LA W m q r h) (m12 : m ≤ 12) (hq : a_rq a_tb h) : ∀ (n f s : Nat), s + n = 2 ^ m → aln (sgP W m) s = true → xq f xi_X2_isStrong xmi_X2_isStrong 2 [(0, .ref 14), (1, .int (nI s))] [] h (fun v h' => h = h' ∧ v = some (.int (bl (aln (sgP W m) (2 ^ m))))) := by
  intro n
  induction n with
  | zero =>
    intro f s sn w
    have e : s = 2 ^ m := by omega
    subst e
    refine xq_n 48 [] [] [.int (Int32.ofInt 1)] h [true] 60 hq rfl ⟨gtt A m12, trivial⟩ (fun _ => ?_)
    exact xq_ret rfl rfl rfl ⟨rfl, by rw [w]; rfl⟩
  | succ n ih =>
    intro f s sn w
    have hs : s < 2 ^ m := by omega
    refine xq_n 15 [0, 1] [(0, .ref 14), (1, .int (nI s))] [.int (nI s), va_rf (xg none h.2.2.2 14 6)] h [false] 60 hq rfl ⟨gtf A m12 hs, trivial⟩ (fun _ => ?_)
    rw [A.1]
    refine xq_cr (As := [.ref q, .int (nI (s))]) (mj := xmi_X7_holds) (q := []) rfl rfl (fun _ _ => rfl) (xa_cs_ok (d := 0) (pc := 0) (lv := []) (nL := 0) A.2.1 rfl).1 (fun f => hl_q A m12 (hs) hq) ?_
    rintro v h1 ⟨rfl, rfl⟩
    cases c : W s with
    | true =>
      refine xq_n 2 [0, 1] [(0, .ref 14), (1, .int (nI s + Int32.ofInt 1))] [] h [true] 60 hq rfl ⟨rfl, trivial⟩ (fun _ => ?_)
      rw [nI_1']
      exact ih f (s + 1) (by omega) (aln_s w (by unfold sgP; rw [c]; rfl))
    | false =>
      refine xq_n 33 [0, 1] [(0, .ref 14), (1, .int (nI s))] [.int (xg 0 h.2.1 14 8 &&& (nI s ^^^ Int32.ofInt (-1))), va_rf (xg none h.2.2.2 14 6)] h [false] 60 hq rfl ⟨rfl, trivial⟩ (fun _ => ?_)
      rw [A.1, A.2.2.2.2.2.1, coc_n m12 hs]
      refine xq_cr (As := [.ref q, .int (nI (co m s))]) (mj := xmi_X7_holds) (q := []) rfl rfl (fun _ _ => rfl) (xa_cs_ok (d := 0) (pc := 0) (lv := []) (nL := 0) A.2.1 rfl).1 (fun f => hl_q A m12 (co_lt) hq) ?_
      rintro v h1 ⟨rfl, rfl⟩
      cases c2 : W (co m s) with
      | true =>
        refine xq_n 2 [0, 1] [(0, .ref 14), (1, .int (nI s + Int32.ofInt 1))] [] h [true] 60 hq rfl ⟨rfl, trivial⟩ (fun _ => ?_)
        rw [nI_1']
        exact ih f (s + 1) (by omega) (aln_s w (by unfold sgP; rw [c, c2]; rfl))
      | false =>
        refine xq_n 40 [] [] [.int (Int32.ofInt 0)] h [false] 60 hq rfl ⟨rfl, trivial⟩ (fun _ => ?_)
        exact xq_ret rfl rfl rfl ⟨rfl, by rw [aln_f (show sgP W m s = false by unfold sgP; rw [c, c2]; rfl) (2 ^ m) hs]; rfl⟩
theorem isg_q {f : Nat} (A : LA W m q r h) (m12 : m ≤ 12) (hq : a_rq a_tb h) : xq f xi_X2_isStrong xmi_X2_isStrong 0 [(0, .ref 14)] [] h (fun v h' => h = h' ∧ v = some (.int (bl (aln (sgP W m) (2 ^ m))))) := by
  refine xq_n 2 [0, 1] [(0, .ref 14), (1, .int (Int32.ofInt 0))] [] h [] 60 hq rfl trivial (fun _ => ?_)
  exact isg_l A m12 hq (2 ^ m) f 0 (by omega) rfl
/-- one of two is no weaker -/
def ge1 (W : Nat → Bool) (m a b : Nat) : Bool := aln (gp W a b) (2 ^ m) || aln (gp W b a) (2 ^ m)
theorem ge1_s {a b : Nat} : ge1 W m a b = ge1 W m b a := Bool.or_comm _ _
def lnd (W : Nat → Bool) (m : Nat) : Bool := aln (fun a => aln (ge1 W m a) a) m
theorem cmv_2 {o u : Bool} : xe_c .ne (cmv o u) (Int32.ofInt 2) = (o || u) := by cases o <;> cases u <;> decide
set_option maxRecDepth 100000 in
set_option maxHeartbeats 4000000 in
theorem iln_in (m12 : m ≤ 12) (e7 : xg 0 h.2.1 14 7 = nI m) (P : PD W m h) (hq : a_rq a_tb h) {a : Nat} (ha : a < m) (K : ∀ f, aln (ge1 W m a) a = true → xq f xi_X2_isLined xmi_X2_isLined 2 [(0, .ref 14), (1, .int (nI (a + 1)))] [] h (fun v h' => h = h' ∧ v = some (.int (bl (lnd W m))))) : ∀ (n f b : Nat), b + n = a → aln (ge1 W m a) b = true → xq f xi_X2_isLined xmi_X2_isLined 12 [(0, .ref 14), (1, .int (nI a)), (2, .int (nI b))] [] h (fun v h' => h = h' ∧ v = some (.int (bl (lnd W m)))) := by
  intro n
  induction n with
  | zero =>
    intro f b bn w
    have e : b = a := by omega
    subst e
    refine xq_n 2 [0, 1] [(0, .ref 14), (1, .int (nI b + Int32.ofInt 1))] [] h [true] 60 hq rfl ⟨nge_t (by omega) (by omega) (Nat.le_refl _), trivial⟩ (fun _ => ?_)
    rw [nI_1']
    exact K f w
  | succ n ih =>
    intro f b bn w
    refine xq_n 20 [0, 1, 2] [(0, .ref 14), (1, .int (nI a)), (2, .int (nI b))] [.int (nI b), .int (nI a), .ref 14] h [false] 60 hq rfl ⟨nge_f (by omega) (by omega) (by omega), trivial⟩ (fun _ => ?_)
    refine xq_run hq rfl rfl (cmp_q m12 P ha (show b < m by omega) hq) ?_
    rintro v h1 ⟨rfl, rfl⟩
    have g := cmv_2 (o := aln (gp W a b) (2 ^ m)) (u := aln (gp W b a) (2 ^ m))
    cases c : (aln (gp W a b) (2 ^ m) || aln (gp W b a) (2 ^ m)) with
    | true =>
      rw [c] at g
      refine xq_n 12 [0, 1, 2] [(0, .ref 14), (1, .int (nI a)), (2, .int (nI b + Int32.ofInt 1))] [] h [true] 60 hq rfl ⟨g, trivial⟩ (fun _ => ?_)
      rw [nI_1']
      exact ih f (b + 1) (by omega) (aln_s w c)
    | false =>
      rw [c] at g
      refine xq_n 28 [] [] [.int (Int32.ofInt 0)] h [false] 60 hq rfl ⟨g, trivial⟩ (fun _ => ?_)
      refine xq_ret rfl rfl rfl ⟨rfl, ?_⟩
      unfold lnd
      rw [aln_f (P := fun a => aln (ge1 W m a) a) (k := a) (aln_f (P := ge1 W m a) (k := b) c a (by omega)) m ha]
      rfl
set_option maxRecDepth 100000 in
set_option maxHeartbeats 4000000 in
theorem iln_l (m12 : m ≤ 12) (e7 : xg 0 h.2.1 14 7 = nI m) (P : PD W m h) (hq : a_rq a_tb h) : ∀ (n f a : Nat), a + n = m → aln (fun a => aln (ge1 W m a) a) a = true → xq f xi_X2_isLined xmi_X2_isLined 2 [(0, .ref 14), (1, .int (nI a))] [] h (fun v h' => h = h' ∧ v = some (.int (bl (lnd W m)))) := by
  intro n
  induction n with
  | zero =>
    intro f a an w
    have e : a = m := by omega
    subst e
    refine xq_n 42 [] [] [.int (Int32.ofInt 1)] h [true] 60 hq rfl ⟨(show xe_c .ge (nI a) (xg 0 h.2.1 14 7) = true by rw [e7]; exact nge_t (by omega) (by omega) (Nat.le_refl _)), trivial⟩ (fun _ => ?_)
    exact xq_ret rfl rfl rfl ⟨rfl, by unfold lnd; rw [w]; rfl⟩
  | succ n ih =>
    intro f a an w
    refine xq_n 12 [0, 1, 2] [(0, .ref 14), (1, .int (nI a)), (2, .int (Int32.ofInt 0))] [] h [false] 60 hq rfl ⟨(show xe_c .ge (nI a) (xg 0 h.2.1 14 7) = false by rw [e7]; exact nge_f (by omega) (by omega) (by omega)), trivial⟩ (fun _ => ?_)
    exact iln_in m12 e7 P hq (show a < m by omega) (fun f w2 => ih f (a + 1) (by omega) (aln_s w w2)) a f 0 (by omega) rfl
theorem iln_q {f : Nat} (m12 : m ≤ 12) (e7 : xg 0 h.2.1 14 7 = nI m) (P : PD W m h) (hq : a_rq a_tb h) : xq f xi_X2_isLined xmi_X2_isLined 0 [(0, .ref 14)] [] h (fun v h' => h = h' ∧ v = some (.int (bl (lnd W m)))) := by
  refine xq_n 2 [0, 1] [(0, .ref 14), (1, .int (Int32.ofInt 0))] [] h [] 60 hq rfl trivial (fun _ => ?_)
  exact iln_l m12 e7 P hq m f 0 (by omega) rfl
end
/-- what many answers -/
def maV (W : Nat → Bool) (m : Nat) : Nat → Int32
  | 0 => nI (cnt W (2 ^ m))
  | 1 => nI (cnt (mi W m false) (2 ^ m))
  | 2 => nI (cnt (mi W m true) (2 ^ m))
  | 3 => nI (sz (ndN (mi W m false) (2 ^ m) m))
  | 4 => nI (sz (idN (mi W m false) (2 ^ m) m))
  | 5 => bl (aln (prP W m) (2 ^ m))
  | 6 => bl (aln (sgP W m) (2 ^ m))
  | 7 => bl (lnd W m)
  | _ => Int32.ofInt (-1)
def maA (W : Nat → Bool) (m : Nat) (x : Int32) : Int32 := if x.toInt < 0 ∨ 7 < x.toInt then Int32.ofInt (-1) else maV W m x.toInt.toNat
theorem maA_o {W : Nat → Bool} {m : Nat} {x : Int32} (h : x.toInt < 0 ∨ 7 < x.toInt) : maA W m x = Int32.ofInt (-1) := if_pos h
theorem maA_i {W : Nat → Bool} {m : Nat} {x : Int32} {i : Nat} (i8 : i < 8) (h : x.toInt = 0 + (i : Int)) : maA W m x = maV W m i := by
  unfold maA
  rw [if_neg (by omega), show x.toInt.toNat = i by omega]
theorem nd_lt {P : Nat → Bool} {N m : Nat} (m12 : m ≤ 12) : ndN P N m < 4096 := by
  have p12 : 2 ^ m ≤ 4096 := show 2 ^ m ≤ 2 ^ 12 from Nat.pow_le_pow_right (by decide) m12
  unfold ndN
  split
  · decide
  · exact Nat.lt_of_lt_of_le (msk_lt m) p12
theorem id_lt {P : Nat → Bool} {N m : Nat} (m12 : m ≤ 12) : idN P N m < 4096 := by
  have p12 : 2 ^ m ≤ 4096 := show 2 ^ m ≤ 2 ^ 12 from Nat.pow_le_pow_right (by decide) m12
  exact Nat.lt_of_lt_of_le (msk_lt m) p12
section
variable {mem sc : Nat} {d : Int32} {h : xh_H}
set_option maxRecDepth 100000 in
set_option maxHeartbeats 4000000 in
theorem ma9_q {f : Nat} {x : Int32} (hi : a_inv a_tb h) (hn : 72 ≤ h.1.length) (e9 : xg 0 h.2.1 0 9 = nI mem) (m1 : 1 ≤ mem) (m12 : mem ≤ 12) (e8 : xg 0 h.2.1 0 8 = nI sc) (sc8 : sc ≤ 8) (e10 : xg 0 h.2.1 0 10 = d) (si : SI h) (pi : PI h) (M : Wm (cvB (fun k => xg 0 h.2.1 51 k) (fun k => xg 0 h.2.1 44 k) mem sc d) mem) : xq f xi_X9_many xmi_X9_many 0 [(0, .ref 0), (1, .int x)] [] h (fun v h' => v = some (.int (maA (cvB (fun k => xg 0 h.2.1 51 k) (fun k => xg 0 h.2.1 44 k) mem sc d) mem x)) ∧ PI h') := by
  have hq := a_rq_of hi.1 hn
  refine xq_n 1 [1] [(1, .int x)] [.ref 0] h [] 60 hq rfl trivial (fun _ => ?_)
  refine xq_run hq rfl rfl (pt9_q hi hn e9 m1 m12 e8 sc8 e10 si pi) ?_
  rintro v h1 ⟨rfl, Y, PP, q, r, A, P⟩
  have hq1 := Yf_q hi hn Y
  obtain ⟨n1, n2⟩ := nd_e m12 M P
  refine xq_n 6 [2] [(2, .ref 14)] [.int x] h1 [] 60 hq1 rfl trivial (fun _ => ?_)
  refine xq_sw rfl (fun hx => ?_) (fun i off ho hx => ?_)
  · rw [maA_o hx]
    show xq f _ _ 122 _ _ _ _
    refine xq_n 123 [] [] [.int (Int32.ofInt (-1))] h1 [] 60 hq1 rfl trivial (fun _ => ?_)
    exact xq_ret rfl rfl rfl ⟨rfl, PP⟩
  · match i, ho with
    | 0, rfl =>
      rw [maA_i (by decide) hx]
      show xq f _ _ 52 _ _ _ _
      refine xq_n 53 [] [] [.ref 14] h1 [] 60 hq1 rfl trivial (fun _ => ?_)
      refine xq_run hq1 rfl rfl (cca_q A m12 hq1) ?_
      rintro v h2 ⟨rfl, rfl⟩
      exact xq_ret rfl rfl rfl ⟨rfl, PP⟩
    | 1, rfl =>
      rw [maA_i (by decide) hx]
      show xq f _ _ 57 _ _ _ _
      refine xq_n 61 [] [] [.int (xg 0 h1.2.1 14 9)] h1 [] 60 hq1 rfl trivial (fun _ => ?_)
      exact xq_ret rfl rfl rfl ⟨by rw [P.2.2.1.1, lcn_e m12 M]; rfl, PP⟩
    | 2, rfl =>
      rw [maA_i (by decide) hx]
      show xq f _ _ 62 _ _ _ _
      refine xq_n 66 [] [] [.int (xg 0 h1.2.1 14 10)] h1 [] 60 hq1 rfl trivial (fun _ => ?_)
      exact xq_ret rfl rfl rfl ⟨by rw [P.2.2.2.1.1, lcn_e m12 M]; rfl, PP⟩
    | 3, rfl =>
      rw [maA_i (by decide) hx]
      show xq f _ _ 67 _ _ _ _
      refine xq_n 71 [] [] [.int (xg 0 h1.2.1 14 11)] h1 [] 60 hq1 rfl trivial (fun _ => ?_)
      rw [n1]
      refine xq_run hq1 rfl rfl (bit_q (nd_lt m12) hq1) ?_
      rintro v h2 ⟨rfl, rfl⟩
      exact xq_ret rfl rfl rfl ⟨rfl, PP⟩
    | 4, rfl =>
      rw [maA_i (by decide) hx]
      show xq f _ _ 75 _ _ _ _
      refine xq_n 79 [] [] [.int (xg 0 h1.2.1 14 12)] h1 [] 60 hq1 rfl trivial (fun _ => ?_)
      rw [n2]
      refine xq_run hq1 rfl rfl (bit_q (id_lt m12) hq1) ?_
      rintro v h2 ⟨rfl, rfl⟩
      exact xq_ret rfl rfl rfl ⟨rfl, PP⟩
    | 5, rfl =>
      rw [maA_i (by decide) hx]
      show xq f _ _ 83 _ _ _ _
      refine xq_n 84 [] [] [.ref 14] h1 [] 60 hq1 rfl trivial (fun _ => ?_)
      refine xq_run hq1 rfl rfl (ipr_q A m12 hq1) ?_
      rintro v h2 ⟨rfl, rfl⟩
      show xq f _ _ _ _ _ _ (fun v h' => v = some (.int (bl (aln (prP (cvB (fun k => xg 0 h.2.1 51 k) (fun k => xg 0 h.2.1 44 k) mem sc d) mem) (2 ^ mem)))) ∧ PI h')
      cases aln (prP (cvB (fun k => xg 0 h.2.1 51 k) (fun k => xg 0 h.2.1 44 k) mem sc d) mem) (2 ^ mem) with
      | false =>
        refine xq_n 95 [] [] [.int (Int32.ofInt 0)] h1 [true] 60 hq1 rfl ⟨rfl, trivial⟩ (fun _ => ?_)
        exact xq_ret rfl rfl rfl ⟨rfl, PP⟩
      | true =>
        refine xq_n 95 [] [] [.int (Int32.ofInt 1)] h1 [false] 60 hq1 rfl ⟨rfl, trivial⟩ (fun _ => ?_)
        exact xq_ret rfl rfl rfl ⟨rfl, PP⟩
    | 6, rfl =>
      rw [maA_i (by decide) hx]
      show xq f _ _ 96 _ _ _ _
      refine xq_n 97 [] [] [.ref 14] h1 [] 60 hq1 rfl trivial (fun _ => ?_)
      refine xq_run hq1 rfl rfl (isg_q A m12 hq1) ?_
      rintro v h2 ⟨rfl, rfl⟩
      show xq f _ _ _ _ _ _ (fun v h' => v = some (.int (bl (aln (sgP (cvB (fun k => xg 0 h.2.1 51 k) (fun k => xg 0 h.2.1 44 k) mem sc d) mem) (2 ^ mem)))) ∧ PI h')
      cases aln (sgP (cvB (fun k => xg 0 h.2.1 51 k) (fun k => xg 0 h.2.1 44 k) mem sc d) mem) (2 ^ mem) with
      | false =>
        refine xq_n 108 [] [] [.int (Int32.ofInt 0)] h1 [true] 60 hq1 rfl ⟨rfl, trivial⟩ (fun _ => ?_)
        exact xq_ret rfl rfl rfl ⟨rfl, PP⟩
      | true =>
        refine xq_n 108 [] [] [.int (Int32.ofInt 1)] h1 [false] 60 hq1 rfl ⟨rfl, trivial⟩ (fun _ => ?_)
        exact xq_ret rfl rfl rfl ⟨rfl, PP⟩
    | 7, rfl =>
      rw [maA_i (by decide) hx]
      show xq f _ _ 109 _ _ _ _
      refine xq_n 110 [] [] [.ref 14] h1 [] 60 hq1 rfl trivial (fun _ => ?_)
      refine xq_run hq1 rfl rfl (iln_q m12 A.2.2.2.2.1 P hq1) ?_
      rintro v h2 ⟨rfl, rfl⟩
      show xq f _ _ _ _ _ _ (fun v h' => v = some (.int (bl (lnd (cvB (fun k => xg 0 h.2.1 51 k) (fun k => xg 0 h.2.1 44 k) mem sc d) mem))) ∧ PI h')
      cases lnd (cvB (fun k => xg 0 h.2.1 51 k) (fun k => xg 0 h.2.1 44 k) mem sc d) mem with
      | false =>
        refine xq_n 121 [] [] [.int (Int32.ofInt 0)] h1 [true] 60 hq1 rfl ⟨rfl, trivial⟩ (fun _ => ?_)
        exact xq_ret rfl rfl rfl ⟨rfl, PP⟩
      | true =>
        refine xq_n 121 [] [] [.int (Int32.ofInt 1)] h1 [false] 60 hq1 rfl ⟨rfl, trivial⟩ (fun _ => ?_)
        exact xq_ret rfl rfl rfl ⟨rfl, PP⟩
    | n + 8, ho => cases ho
end
end XMA
