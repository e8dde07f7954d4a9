section XPS
/-- in all of a row, or in none -/
def nf (R : Nat → Int32) (x : Int32) : Nat → Int32
  | 0 => x
  | k + 1 => nf R x k &&& R k
def idf (R : Nat → Int32) (x : Int32) : Nat → Int32
  | 0 => x
  | k + 1 => idf R x k &&& (R k ^^^ Int32.ofInt (-1))
def SM (c k : Nat) : Bool := Nat.beq c 14 && (Nat.beq k 11 || Nat.beq k 12)
section
variable {W : Nat → Bool} {m q r : Nat}
set_option maxRecDepth 100000 in
set_option maxHeartbeats 4000000 in
/-- Powers.markNeeded -/
theorem mkn_l {L : Nat} {x0 y0 : Int32} {hb : xh_H} (L9 : L ≤ 924) (e9 : xg 0 hb.2.1 14 9 = nI L) : ∀ (n f i : Nat) (h : xh_H), i + n = L → a_rq a_tb h → fx SM fN hb h → xg 0 h.2.1 14 11 = nf (fun k => xg 0 hb.2.1 15 k) x0 i → xg 0 h.2.1 14 12 = idf (fun k => xg 0 hb.2.1 15 k) y0 i → xq f xi_X2_markNeeded xmi_X2_markNeeded 29 [(0, .ref 14), (1, .int (nI i))] [] h (fun v h' => v = none ∧ fx SM fN hb h' ∧ xg 0 h'.2.1 14 11 = nf (fun k => xg 0 hb.2.1 15 k) x0 L ∧ xg 0 h'.2.1 14 12 = idf (fun k => xg 0 hb.2.1 15 k) y0 L) := by
  intro n
  induction n with
  | zero =>
    intro f i h hn hq ge w1 w2
    have e : i = L := by omega
    subst e
    refine xq_n 75 [] [] [] h [true] 60 hq rfl ⟨(show xe_c .ge (nI i) (xg 0 h.2.1 14 9) = true by rw [fx_i ge rfl, e9]; exact nge_t (by omega) (by omega) (Nat.le_refl _)), trivial⟩ (fun _ => ?_)
    exact xq_ret rfl rfl rfl ⟨rfl, ge, w1, w2⟩
  | succ n ih =>
    intro f i h hn hq ge w1 w2
    refine xq_n 29 [0, 1] [(0, .ref 14), (1, .int (nI i + Int32.ofInt 1))] [] (xh_ui (xh_ui h 14 11 (xg 0 h.2.1 14 11 &&& xg 0 h.2.1 15 (nI i).toNatClampNeg)) 14 12 (xg 0 (xh_ui h 14 11 (xg 0 h.2.1 14 11 &&& xg 0 h.2.1 15 (nI i).toNatClampNeg)).2.1 14 12 &&& (xg 0 (xh_ui h 14 11 (xg 0 h.2.1 14 11 &&& xg 0 h.2.1 15 (nI i).toNatClampNeg)).2.1 15 (nI i).toNatClampNeg ^^^ Int32.ofInt (-1)))) [false] 60 hq rfl ⟨(show xe_c .ge (nI i) (xg 0 h.2.1 14 9) = false by rw [fx_i ge rfl, e9]; exact nge_f (by omega) (by omega) (by omega)), trivial⟩ (fun _ => ?_)
    rw [nI_1', show (nI i).toNatClampNeg = i from nI_clamp (by omega), gx_k (k := 11) (k' := 12) (by decide), gx_o (c := 14) (c' := 15) (by decide), show xg 0 h.2.1 15 i = xg 0 hb.2.1 15 i from fx_i ge rfl, w1, w2]
    refine ih f (i + 1) _ (by omega) (a_rq_ui (a_rq_ui hq)) (fx_ui (fx_ui ge rfl) rfl) ?_ ?_
    · rw [gx_k (by decide), gx_s]; rfl
    · rw [gx_s]; rfl
set_option maxRecDepth 100000 in
set_option maxHeartbeats 4000000 in
theorem mkn_q {f L : Nat} {hb : xh_H} (L9 : L ≤ 924) (e9 : xg 0 hb.2.1 14 9 = nI L) (hq : a_rq a_tb hb) : xq f xi_X2_markNeeded xmi_X2_markNeeded 0 [(0, .ref 14)] [] hb (fun v h' => v = none ∧ fx SM fN hb h' ∧ xg 0 h'.2.1 14 11 = nf (fun k => xg 0 hb.2.1 15 k) (cond (xe_c .le (nI L) 0) 0 (xg 0 hb.2.1 14 8)) L ∧ xg 0 h'.2.1 14 12 = idf (fun k => xg 0 hb.2.1 15 k) (xg 0 hb.2.1 14 8) L) := by
  cases c : xe_c .le (nI L) 0 with
  | true =>
    refine xq_n 29 [0, 1] [(0, .ref 14), (1, .int (Int32.ofInt 0))] [] (xh_ui (xh_ui hb 14 11 (Int32.ofInt 0)) 14 12 (xg 0 (xh_ui hb 14 11 (Int32.ofInt 0)).2.1 14 8)) [true] 60 hq rfl ⟨(show xe_c .le (xg 0 hb.2.1 14 9) 0 = true by rw [e9]; exact c), trivial⟩ (fun _ => ?_)
    rw [gx_k (k := 11) (k' := 8) (by decide)]
    exact mkn_l L9 e9 L f 0 _ (by omega) (a_rq_ui (a_rq_ui hq)) (fx_ui (fx_ui fx_0 rfl) rfl) (by rw [gx_k (by decide), gx_s]; rfl) (by rw [gx_s]; rfl)
  | false =>
    refine xq_n 29 [0, 1] [(0, .ref 14), (1, .int (Int32.ofInt 0))] [] (xh_ui (xh_ui hb 14 11 (xg 0 hb.2.1 14 8)) 14 12 (xg 0 (xh_ui hb 14 11 (xg 0 hb.2.1 14 8)).2.1 14 8)) [false] 60 hq rfl ⟨(show xe_c .le (xg 0 hb.2.1 14 9) 0 = false by rw [e9]; exact c), trivial⟩ (fun _ => ?_)
    rw [gx_k (k := 11) (k' := 8) (by decide)]
    exact mkn_l L9 e9 L f 0 _ (by omega) (a_rq_ui (a_rq_ui hq)) (fx_ui (fx_ui fx_0 rfl) rfl) (by rw [gx_k (by decide), gx_s]; rfl) (by rw [gx_s]; rfl)
set_option maxRecDepth 100000 in
set_option maxHeartbeats 4000000 in
/-- Powers.isAtLeast -/
theorem ial_l {a b : Nat} {h : xh_H} (A : LA W m q r h) (m12 : m ≤ 12) (ha : a < m) (hb : b < m) (hq : a_rq a_tb h) : ∀ (n f s : Nat), s + n = 2 ^ m → aln (gp W a b) s = true → xq f xi_X2_isAtLeast xmi_X2_isAtLeast 11 [(0, .ref 14), (1, .int (nI a)), (2, .int (nI b)), (3, .int (((Int32.ofInt 1) <<< (nI a &&& 31)) ||| ((Int32.ofInt 1) <<< (nI b &&& 31)))), (4, .int (nI s))] [] h (fun v h' => h = h' ∧ v = some (.int (bl (aln (gp W a b) (2 ^ m))))) := by
  have p12 : 2 ^ m ≤ 4096 := show 2 ^ m ≤ 2 ^ 12 from Nat.pow_le_pow_right (by decide) m12
  intro n
  induction n with
  | zero =>
    intro f s sn w
    have e : s = 2 ^ m := by omega
    subst e
    refine xq_n 68 [] [] [.int (Int32.ofInt 1)] h [true] 60 hq rfl ⟨gtt A m12, trivial⟩ (fun _ => ?_)
    exact xq_ret rfl rfl rfl ⟨rfl, by rw [w]; rfl⟩
  | succ n ih =>
    intro f s sn w
    have hs : s < 2 ^ m := by omega
    have g2 := and2 (s := s) (a := a) (b := b) (by omega) (by omega) (by omega)
    cases c1 : (!s.testBit a && !s.testBit b) with
    | false =>
      have z : gp W a b s = true := by unfold gp; rw [c1]; rfl
      rw [c1] at g2
      refine xq_n 11 [0, 1, 2, 3, 4] [(0, .ref 14), (1, .int (nI a)), (2, .int (nI b)), (3, .int (((Int32.ofInt 1) <<< (nI a &&& 31)) ||| ((Int32.ofInt 1) <<< (nI b &&& 31)))), (4, .int (nI s + Int32.ofInt 1))] [] h [false, true] 60 hq rfl ⟨gtf A m12 hs, g2, trivial⟩ (fun _ => ?_)
      rw [nI_1']
      exact ih f (s + 1) (by omega) (aln_s w z)
    | true =>
      rw [c1] at g2
      refine xq_n 37 [0, 1, 2, 3, 4] [(0, .ref 14), (1, .int (nI a)), (2, .int (nI b)), (3, .int (((Int32.ofInt 1) <<< (nI a &&& 31)) ||| ((Int32.ofInt 1) <<< (nI b &&& 31)))), (4, .int (nI s))] [.int (nI s ||| (Int32.ofInt 1 <<< (nI b &&& 31))), va_rf (xg none h.2.2.2 14 6)] h [false, false] 60 hq rfl ⟨gtf A m12 hs, g2, trivial⟩ (fun _ => ?_)
      rw [A.1, show nI s ||| (Int32.ofInt 1 <<< (nI b &&& 31)) = nI (s ||| 2 ^ b) from nI_o1 (by omega)]
      refine xq_cr (As := [.ref q, .int (nI (s ||| 2 ^ b))]) (mj := xmi_X7_holds) (q := []) rfl rfl (fun _ _ => rfl) (xa_cs_ok (d := 0) (pc := 0) (lv := []) (nL := 0) A.2.1 rfl).1 (fun f => hl_q A m12 (or_p hs hb) hq) ?_
      rintro v h1 ⟨rfl, rfl⟩
      cases c2 : W (s ||| 2 ^ b) with
      | false =>
        have z : gp W a b s = true := by unfold gp; rw [c1, c2]; rfl
        refine xq_n 11 [0, 1, 2, 3, 4] [(0, .ref 14), (1, .int (nI a)), (2, .int (nI b)), (3, .int (((Int32.ofInt 1) <<< (nI a &&& 31)) ||| ((Int32.ofInt 1) <<< (nI b &&& 31)))), (4, .int (nI s + Int32.ofInt 1))] [] h [true] 60 hq rfl ⟨rfl, trivial⟩ (fun _ => ?_)
        rw [nI_1']
        exact ih f (s + 1) (by omega) (aln_s w z)
      | true =>
        refine xq_n 53 [0, 1, 2, 3, 4] [(0, .ref 14), (1, .int (nI a)), (2, .int (nI b)), (3, .int (((Int32.ofInt 1) <<< (nI a &&& 31)) ||| ((Int32.ofInt 1) <<< (nI b &&& 31)))), (4, .int (nI s))] [.int (nI s ||| (Int32.ofInt 1 <<< (nI a &&& 31))), va_rf (xg none h.2.2.2 14 6)] h [false] 60 hq rfl ⟨rfl, trivial⟩ (fun _ => ?_)
        rw [A.1, show nI s ||| (Int32.ofInt 1 <<< (nI a &&& 31)) = nI (s ||| 2 ^ a) from nI_o1 (by omega)]
        refine xq_cr (As := [.ref q, .int (nI (s ||| 2 ^ a))]) (mj := xmi_X7_holds) (q := []) rfl rfl (fun _ _ => rfl) (xa_cs_ok (d := 0) (pc := 0) (lv := []) (nL := 0) A.2.1 rfl).1 (fun f => hl_q A m12 (or_p hs ha) hq) ?_
        rintro v h1 ⟨rfl, rfl⟩
        cases c3 : W (s ||| 2 ^ a) with
        | true =>
          have z : gp W a b s = true := by unfold gp; rw [c1, c2, c3]; rfl
          refine xq_n 11 [0, 1, 2, 3, 4] [(0, .ref 14), (1, .int (nI a)), (2, .int (nI b)), (3, .int (((Int32.ofInt 1) <<< (nI a &&& 31)) ||| ((Int32.ofInt 1) <<< (nI b &&& 31)))), (4, .int (nI s + Int32.ofInt 1))] [] h [true] 60 hq rfl ⟨rfl, trivial⟩ (fun _ => ?_)
          rw [nI_1']
          exact ih f (s + 1) (by omega) (aln_s w z)
        | false =>
          have z : gp W a b s = false := by unfold gp; rw [c1, c2, c3]; rfl
          refine xq_n 60 [] [] [.int (Int32.ofInt 0)] h [false] 60 hq rfl ⟨rfl, trivial⟩ (fun _ => ?_)
          exact xq_ret rfl rfl rfl ⟨rfl, by rw [aln_f z (2 ^ m) hs]; rfl⟩
theorem ial_q {f a b : Nat} {h : xh_H} (A : LA W m q r h) (m12 : m ≤ 12) (ha : a < m) (hb : b < m) (hq : a_rq a_tb h) : xq f xi_X2_isAtLeast xmi_X2_isAtLeast 0 [(0, .ref 14), (1, .int (nI a)), (2, .int (nI b))] [] h (fun v h' => h = h' ∧ v = some (.int (bl (aln (gp W a b) (2 ^ m))))) := by
  refine xq_n 11 [0, 1, 2, 3, 4] [(0, .ref 14), (1, .int (nI a)), (2, .int (nI b)), (3, .int (((Int32.ofInt 1) <<< (nI a &&& 31)) ||| ((Int32.ofInt 1) <<< (nI b &&& 31)))), (4, .int (Int32.ofInt 0))] [] h [] 60 hq rfl trivial (fun _ => ?_)
  exact ial_l A m12 ha hb hq (2 ^ m) f 0 (by omega) rfl
def S19 (c _k : Nat) : Bool := Nat.beq c 19
set_option maxRecDepth 100000 in
set_option maxHeartbeats 4000000 in
/-- Powers.compareAll -/
theorem cal_in {hb : xh_H} (A : LA W m q r hb) (m12 : m ≤ 12) {a : Nat} (ha : a < m) {Q : Option Value → xh_H → Prop} (K : ∀ (f : Nat) (h : xh_H), a_rq a_tb h → fx S19 fN hb h → (∀ a', a' < a + 1 → xg 0 h.2.1 19 a' = nI (msk (fun b => aln (gp W a' b) (2 ^ m)) m)) → xq f xi_X2_compareAll xmi_X2_compareAll 2 [(0, .ref 14), (1, .int (nI (a + 1)))] [] h Q) : ∀ (n f b : Nat) (h : xh_H), b + n = m → a_rq a_tb h → fx S19 fN hb h → (∀ a', a' < a → xg 0 h.2.1 19 a' = nI (msk (fun b => aln (gp W a' b) (2 ^ m)) m)) → xg 0 h.2.1 19 a = nI (msk (fun b => aln (gp W a b) (2 ^ m)) b) → xq f xi_X2_compareAll xmi_X2_compareAll 19 [(0, .ref 14), (1, .int (nI a)), (2, .int (nI b))] [] h Q := by
  intro n
  induction n with
  | zero =>
    intro f b h hn hq ge w w1
    have e : b = m := by omega
    subst e
    have A' := LA_f A ge rfl rfl
    refine xq_n 2 [0, 1] [(0, .ref 14), (1, .int (nI a + Int32.ofInt 1))] [] h [true] 60 hq rfl ⟨(show xe_c .ge (nI b) (xg 0 h.2.1 14 7) = true by rw [A'.2.2.2.2.1]; exact nge_t (by omega) (by omega) (Nat.le_refl _)), trivial⟩ (fun _ => ?_)
    rw [nI_1']
    refine K f h hq ge (fun a' ha' => ?_)
    by_cases z : a' = a
    · rw [z]; exact w1
    · exact w a' (by omega)
  | succ n ih =>
    intro f b h hn hq ge w w1
    have A' := LA_f A ge rfl rfl
    have es : msk (fun b => aln (gp W a b) (2 ^ m)) (b + 1) = if aln (gp W a b) (2 ^ m) = true then msk (fun b => aln (gp W a b) (2 ^ m)) b ||| 2 ^ b else msk (fun b => aln (gp W a b) (2 ^ m)) b := rfl
    refine xq_n 30 [0, 1, 2] [(0, .ref 14), (1, .int (nI a)), (2, .int (nI b))] [.int (nI b), .int (nI a), .ref 14] h [false] 60 hq rfl ⟨(show xe_c .ge (nI b) (xg 0 h.2.1 14 7) = false by rw [A'.2.2.2.2.1]; exact nge_f (by omega) (by omega) (by omega)), trivial⟩ (fun _ => ?_)
    refine xq_run hq rfl rfl (ial_q A' m12 ha (by omega) hq) ?_
    rintro v h1 ⟨rfl, rfl⟩
    cases c : aln (gp W a b) (2 ^ m) with
    | false =>
      refine xq_n 19 [0, 1, 2] [(0, .ref 14), (1, .int (nI a)), (2, .int (nI b + Int32.ofInt 1))] [] h [true] 60 hq rfl ⟨rfl, trivial⟩ (fun _ => ?_)
      rw [nI_1']
      exact ih f (b + 1) h (by omega) hq ge w (by rw [es, c, if_neg (by decide)]; exact w1)
    | true =>
      refine xq_n 19 [0, 1, 2] [(0, .ref 14), (1, .int (nI a)), (2, .int (nI b + Int32.ofInt 1))] [] (xh_ui h 19 (nI a).toNatClampNeg (xg 0 h.2.1 19 (nI a).toNatClampNeg ||| (Int32.ofInt 1 <<< (nI b &&& 31)))) [false] 60 hq rfl ⟨rfl, trivial⟩ (fun _ => ?_)
      rw [nI_1', show (nI a).toNatClampNeg = a from nI_clamp (by omega), w1, nI_o1 (by omega)]
      exact ih f (b + 1) _ (by omega) (a_rq_ui hq) (fx_ui ge rfl) (fun a' ha' => (gx_k (by omega)).trans (w a' ha')) (by rw [gx_s, es, c, if_pos rfl])
set_option maxRecDepth 100000 in
set_option maxHeartbeats 4000000 in
theorem cal_l {hb : xh_H} (A : LA W m q r hb) (m12 : m ≤ 12) : ∀ (n f a : Nat) (h : xh_H), a + n = m → a_rq a_tb h → fx S19 fN hb h → (∀ a', a' < a → xg 0 h.2.1 19 a' = nI (msk (fun b => aln (gp W a' b) (2 ^ m)) m)) → xq f xi_X2_compareAll xmi_X2_compareAll 2 [(0, .ref 14), (1, .int (nI a))] [] h (fun v h' => v = none ∧ fx S19 fN hb h' ∧ ∀ a', a' < m → xg 0 h'.2.1 19 a' = nI (msk (fun b => aln (gp W a' b) (2 ^ m)) m)) := by
  intro n
  induction n with
  | zero =>
    intro f a h hn hq ge w
    have e : a = m := by omega
    subst e
    have A' := LA_f A ge rfl rfl
    refine xq_n 60 [] [] [] h [true] 60 hq rfl ⟨(show xe_c .ge (nI a) (xg 0 h.2.1 14 7) = true by rw [A'.2.2.2.2.1]; exact nge_t (by omega) (by omega) (Nat.le_refl _)), trivial⟩ (fun _ => ?_)
    exact xq_ret rfl rfl rfl ⟨rfl, ge, w⟩
  | succ n ih =>
    intro f a h hn hq ge w
    have A' := LA_f A ge rfl rfl
    refine xq_n 19 [0, 1, 2] [(0, .ref 14), (1, .int (nI a)), (2, .int (Int32.ofInt 0))] [] (xh_ui h 19 (nI a).toNatClampNeg (Int32.ofInt 0)) [false] 60 hq rfl ⟨(show xe_c .ge (nI a) (xg 0 h.2.1 14 7) = false by rw [A'.2.2.2.2.1]; exact nge_f (by omega) (by omega) (by omega)), trivial⟩ (fun _ => ?_)
    rw [show (nI a).toNatClampNeg = a from nI_clamp (by omega)]
    exact cal_in A m12 (show a < m by omega) (fun f h hq ge w => ih f (a + 1) h (by omega) hq ge w) m f 0 _ (by omega) (a_rq_ui hq) (fx_ui ge rfl) (fun a' ha' => (gx_k (by omega)).trans (w a' ha')) (by rw [gx_s]; rfl)
theorem cal_q {f : Nat} {hb : xh_H} (A : LA W m q r hb) (m12 : m ≤ 12) (hq : a_rq a_tb hb) : xq f xi_X2_compareAll xmi_X2_compareAll 0 [(0, .ref 14)] [] hb (fun v h' => v = none ∧ fx S19 fN hb h' ∧ ∀ a', a' < m → xg 0 h'.2.1 19 a' = nI (msk (fun b => aln (gp W a' b) (2 ^ m)) m)) := by
  refine xq_n 2 [0, 1] [(0, .ref 14), (1, .int (Int32.ofInt 0))] [] hb [] 60 hq rfl trivial (fun _ => ?_)
  exact cal_l A m12 m f 0 hb (by omega) hq fx_0 (fun a' ha' => absurd ha' (Nat.not_lt_zero a'))
end
/-- how many least ones are told -/
def lcn (P : Nat → Bool) (N : Nat) : Nat := min (cnt P N) 924
theorem mn_e {n : Nat} (h : n < 2 ^ 31) : mn n = nI (min n 924) := by
  unfold mn
  by_cases z : n ≤ 924
  · rw [if_neg (fun y => by have := Int32.lt_iff_toInt_lt.mp y; rw [nI_toInt h] at this; have e : (924 : Int32).toInt = 924 := rfl; omega), Nat.min_eq_left z]
  · rw [if_pos (Int32.lt_iff_toInt_lt.mpr (by rw [nI_toInt h]; show (924 : Int) < _; omega)), Nat.min_eq_right (by omega)]
    rfl
/-- a row of sets -/
def rwQ (P : Nat → Bool) (N c : Nat) (h : xh_H) : Prop := ∀ t, t < N → P t = true → rk P N t < 924 → xg 0 h.2.1 c (rk P N t) = nI t
/-- what Powers has told fits what it looks at -/
def PD (W : Nat → Bool) (m : Nat) (h : xh_H) : Prop := (∀ a, a < m → xg 0 h.2.1 17 a = nI (cnt (tw W a) (2 ^ m))) ∧ (∀ a, a < m → xg 0 h.2.1 19 a = nI (msk (fun b => aln (gp W a b) (2 ^ m)) m)) ∧ (xg 0 h.2.1 14 9 = nI (lcn (mi W m false) (2 ^ m)) ∧ rwQ (mi W m false) (2 ^ m) 15 h) ∧ (xg 0 h.2.1 14 10 = nI (lcn (mi W m true) (2 ^ m)) ∧ rwQ (mi W m true) (2 ^ m) 16 h) ∧ xg 0 h.2.1 14 11 = nf (fun k => xg 0 h.2.1 15 k) (cond (xe_c .le (nI (lcn (mi W m false) (2 ^ m))) 0) 0 (nI (2 ^ m - 1))) (lcn (mi W m false) (2 ^ m)) ∧ xg 0 h.2.1 14 12 = idf (fun k => xg 0 h.2.1 15 k) (nI (2 ^ m - 1)) (lcn (mi W m false) (2 ^ m))
theorem PD_c {W : Nat → Bool} {m : Nat} {h h' : xh_H} (e : ∀ c k, (c = 14 ∧ 9 ≤ k ∧ k ≤ 12) ∨ c = 15 ∨ c = 16 ∨ c = 17 ∨ c = 19 → xg 0 h'.2.1 c k = xg 0 h.2.1 c k) (P : PD W m h) : PD W m h' := by
  obtain ⟨p1, p2, ⟨p3, p4⟩, ⟨p5, p6⟩, p7, p8⟩ := P
  have e15 : (fun k => xg 0 h'.2.1 15 k) = fun k => xg 0 h.2.1 15 k := funext (fun k => e 15 k (by omega))
  refine ⟨fun a ha => (e 17 a (by omega)).trans (p1 a ha), fun a ha => (e 19 a (by omega)).trans (p2 a ha), ⟨(e 14 9 (by omega)).trans p3, fun t h1 h2 h3 => (e 15 _ (by omega)).trans (p4 t h1 h2 h3)⟩, ⟨(e 14 10 (by omega)).trans p5, fun t h1 h2 h3 => (e 16 _ (by omega)).trans (p6 t h1 h2 h3)⟩, ?_, ?_⟩
  · rw [e15]; exact (e 14 11 (by omega)).trans p7
  · rw [e15]; exact (e 14 12 (by omega)).trans p8
/-- what study may change -/
def SY (c k : Nat) : Bool := (Nat.beq c 14 && Nat.ble 7 k) || (Nat.ble 15 c && Nat.ble c 19)
theorem SY_w {S : Nat → Nat → Bool} {h h1 h2 : xh_H} (hS : ∀ c k, SY c k = false → S c k = false) (g : fx SY fN h h1) (g2 : fx S fN h1 h2) : fx SY fN h h2 := fx_t g (fx_w g2 hS (fun _ _ z => z))
theorem SY_o {c k : Nat} (h : SY c k = false) : ¬ (c = 14 ∧ 7 ≤ k) ∧ ¬ (15 ≤ c ∧ c ≤ 19) := by
  unfold SY at h
  rw [Bool.or_eq_false_iff] at h
  refine ⟨fun z => ?_, fun z => ?_⟩
  · rw [z.1, Nat.ble_eq_true_of_le z.2] at h; exact absurd h.1 (by decide)
  · rw [Nat.ble_eq_true_of_le z.1, Nat.ble_eq_true_of_le z.2] at h; exact absurd h.2 (by decide)
theorem nbeq_f {a b : Nat} (h : a ≠ b) : Nat.beq a b = false := by
  cases z : Nat.beq a b with
  | false => rfl
  | true => exact absurd (Nat.eq_of_beq_eq_true z) h
theorem SY_15 {c k : Nat} (h : SY c k = false) : SL15 c k = false := by
  have := SY_o h
  unfold SL15
  rw [nbeq_f (by omega), nbeq_f (by omega)]; rfl
theorem SY_16 {c k : Nat} (h : SY c k = false) : SL16 c k = false := by
  have := SY_o h
  unfold SL16
  rw [nbeq_f (by omega), nbeq_f (by omega)]; rfl
theorem SY_19 {c k : Nat} (h : SY c k = false) : S19 c k = false := by
  have := SY_o h
  exact nbeq_f (by omega)
theorem SY_M {c k : Nat} (h : SY c k = false) : SM c k = false := by
  have := SY_o h
  unfold SM
  by_cases z : c = 14
  · rw [nbeq_f (show k ≠ 11 by omega), nbeq_f (show k ≠ 12 by omega)]; cases Nat.beq c 14 <;> rfl
  · rw [nbeq_f z]; rfl
/-- what study leaves -/
def Yf (h h' : xh_H) : Prop := h'.1 = h.1 ∧ (∀ c k, SY c k = false → xg 0 h'.2.1 c k = xg 0 h.2.1 c k) ∧ (∀ c k, xg 0 h'.2.2.1 c k = xg 0 h.2.2.1 c k) ∧ ∀ c k, (c ≠ 14 ∨ k ≠ 6) → xg none h'.2.2.2 c k = xg none h.2.2.2 c k
def S17 (c _k : Nat) : Bool := Nat.beq c 17
theorem SY_17 {c k : Nat} (h : SY c k = false) : S17 c k = false := by
  have := SY_o h
  exact nbeq_f (by omega)
set_option maxRecDepth 100000 in
set_option maxHeartbeats 4000000 in
theorem syl_q {W : Nat → Bool} {m q r : Nat} {hb : xh_H} (A : LA W m q r hb) (m12 : m ≤ 12) {Q : Option Value → xh_H → Prop} (K : ∀ (f : Nat) (h : xh_H), a_rq a_tb h → fx S17 fN hb h → (∀ a', a' < m → xg 0 h.2.1 17 a' = nI (cnt (tw W a') (2 ^ m))) → xq f xi_X2_study xmi_X2_study 87 [] [.ref 14] h Q) : ∀ (n f a : Nat) (h : xh_H), a + n = m → a_rq a_tb h → fx S17 fN hb h → (∀ a', a' < a → xg 0 h.2.1 17 a' = nI (cnt (tw W a') (2 ^ m))) → xq f xi_X2_study xmi_X2_study 61 [(0, .ref 14), (3, .int (nI a))] [] h Q := by
  intro n
  induction n with
  | zero =>
    intro f a h hn hq ge w
    have e : a = m := by omega
    subst e
    have A' := LA_f A ge rfl rfl
    refine xq_n 87 [] [] [.ref 14] h [true] 60 hq rfl ⟨(show xe_c .ge (nI a) (xg 0 h.2.1 14 7) = true by rw [A'.2.2.2.2.1]; exact nge_t (by omega) (by omega) (Nat.le_refl _)), trivial⟩ (fun _ => ?_)
    exact K f h hq ge w
  | succ n ih =>
    intro f a h hn hq ge w
    have A' := LA_f A ge rfl rfl
    refine xq_n 76 [0, 3] [(0, .ref 14), (3, .int (nI a))] [.int (nI a), .ref 14, .int (nI a), .ref 17] h [false] 60 hq rfl ⟨(show xe_c .ge (nI a) (xg 0 h.2.1 14 7) = false by rw [A'.2.2.2.2.1]; exact nge_f (by omega) (by omega) (by omega)), trivial⟩ (fun _ => ?_)
    refine xq_run hq rfl rfl (csw_q A' m12 (show a < m by omega) hq) ?_
    rintro v h1 ⟨rfl, rfl⟩
    refine xq_n 61 [0, 3] [(0, .ref 14), (3, .int (nI a + Int32.ofInt 1))] [] (xh_ui h 17 (nI a).toNatClampNeg (nI (cnt (tw W a) (2 ^ m)))) [] 60 hq rfl trivial (fun _ => ?_)
    rw [nI_1', show (nI a).toNatClampNeg = a from nI_clamp (by omega)]
    refine ih f (a + 1) _ (by omega) (a_rq_ui hq) (fx_ui ge rfl) (fun a' ha' => ?_)
    by_cases z : a' = a
    · rw [z, gx_s]
    · exact (gx_k (by omega)).trans (w a' (by omega))
set_option maxRecDepth 100000 in
set_option maxHeartbeats 4000000 in
/-- Powers.study -/
theorem stu_q {f : Nat} {W : Nat → Bool} {m q r l : Nat} {h : xh_H} (hi : a_inv a_tb h) (hn : 72 ≤ h.1.length) (hl : xg none h.2.2.2 14 6 = some l) (hq2 : a_r h.1.length 11 q) (hs : h.1[q]? = some (0, 7)) (hg : xg none h.2.2.2 q 1 = some r) (hr : h.1[r]? = some (4, 64)) (m1 : 1 ≤ m) (m12 : m ≤ 12) (hW : ∀ s, s < 2 ^ m → hv h r s = W s) (hP : l = q → xg 0 h.2.1 14 7 = nI m → xg 0 h.2.1 14 8 = nI (2 ^ m - 1) ∧ PD W m h) : xq f xi_X2_study xmi_X2_study 0 [(0, .ref 14), (1, .ref q), (2, .int (nI m))] [] h (fun v h' => v = none ∧ LA W m q r h' ∧ PD W m h' ∧ Yf h h') := by
  have hq := a_rq_of hi.1 hn
  have p12 : 2 ^ m ≤ 4096 := show 2 ^ m ≤ 2 ^ 12 from Nat.pow_le_pow_right (by decide) m12
  have hs14 : h.1[14]? = some (0, 2) := hq.2.1 14 _ rfl
  have q14 : q ≠ 14 := fun e => by rw [e, hs14] at hs; cases hs
  obtain ⟨l', l1, l2⟩ : ∃ l, xg none h.2.2.2 14 6 = some l ∧ a_r h.1.length 11 l := (hi.1 14 _ hs14).2 6 (by decide)
  rw [hl] at l1
  cases l1
  refine xq_n 3 [0, 1, 2] [(0, .ref 14), (1, .ref q), (2, .int (nI m))] [.int (nI m), .ref q, .ref 14] h [] 60 hq rfl trivial (fun _ => ?_)
  refine xq_run hq rfl rfl (xq_of (d := 0) ⟨_, rfl⟩ (io_run (d := 0) hi.1 hn hl l2.1 hq2.1 m12)) ?_
  rintro v h1 ⟨rfl, p, rfl, hp⟩
  have ur : ∀ c k, (c ≠ 14 ∨ k ≠ 6) → xg none (xh_ur h 14 6 (some q)).2.2.2 c k = xg none h.2.2.2 c k := fun c k z => by
    by_cases y : c = 14
    · subst y; exact xh_up_k (by omega)
    · exact congrFun (xh_up_o y) k
  cases p with
  | true =>
    obtain ⟨rfl, e7⟩ := hp.mp rfl
    obtain ⟨e8, PP⟩ := hP rfl e7
    refine xq_n 9 [] [] [] h [false] 60 hq rfl ⟨rfl, trivial⟩ (fun _ => ?_)
    refine xq_ret rfl rfl rfl ⟨rfl, ⟨hl, hs, hg, hr, e7, e8, hW⟩, PP, rfl, fun _ _ _ => rfl, fun _ _ => rfl, fun _ _ _ => rfl⟩
  | false =>
    refine xq_n 12 [0, 1, 2] [(0, .ref 14), (1, .ref q), (2, .int (nI m))] [.ref q, .ref 14] h [true] 60 hq rfl ⟨rfl, trivial⟩ (fun _ => ?_)
    refine xq_st rfl rfl (fun _ _ => xe_pr hs14 rfl) ?_
    have hi1 : a_inv a_tb (xh_ur h 14 6 (some q)) := a_inv_ur (e := (2, 11, 0)) hi hs14 (by rw [a_tg_lt (by decide)]; rfl) (Or.inl rfl) hq2
    have q1 : a_rq a_tb (xh_ur h 14 6 (some q)) := a_rq_of hi1.1 hn
    have ef : ((Int32.ofInt 1) <<< ((nI m) &&& 31)) - (Int32.ofInt 1) = nI (2 ^ m - 1) := by
      rw [sh1 m (by omega)]
      exact nI_sub (b := 1) (Nat.two_pow_pos m)
    refine xq_n 29 [0, 1, 2] [(0, .ref 14), (1, .ref q), (2, .int (nI m))] [] (xh_ui (xh_ui (xh_ur h 14 6 (some q)) 14 7 (nI m)) 14 8 (((Int32.ofInt 1) <<< ((nI m) &&& 31)) - (Int32.ofInt 1))) [] 60 q1 rfl trivial (fun _ => ?_)
    rw [ef]
    generalize hh : xh_ur h 14 6 (some q) = h0 at q1 ur
    have q3 : a_rq a_tb (xh_ui (xh_ui h0 14 7 (nI m)) 14 8 (nI (2 ^ m - 1))) := a_rq_ui (a_rq_ui q1)
    have g3 : fx SY fN h0 (xh_ui (xh_ui h0 14 7 (nI m)) 14 8 (nI (2 ^ m - 1))) := fx_ui (fx_ui fx_0 rfl) rfl
    have A3 : LA W m q r (xh_ui (xh_ui h0 14 7 (nI m)) 14 8 (nI (2 ^ m - 1))) := by
      refine ⟨?_, ?_, ?_, ?_, by rw [gx_k (by decide), gx_s], gx_s, fun s hs' => ?_⟩
      · show xg none h0.2.2.2 14 6 = some q
        rw [← hh]; exact xh_up_s
      · show h0.1[q]? = _
        rw [← hh]; exact hs
      · exact (ur q 1 (Or.inl q14)).trans hg
      · show h0.1[r]? = _
        rw [← hh]; exact hr
      · have e : ∀ k, xg 0 (xh_ui (xh_ui h0 14 7 (nI m)) 14 8 (nI (2 ^ m - 1))).2.2.1 r k = xg 0 h.2.2.1 r k := fun k => by
          show xg 0 h0.2.2.1 r k = _
          rw [← hh]; rfl
        exact (hv_ee e).trans (hW s hs')
    generalize xh_ui (xh_ui h0 14 7 (nI m)) 14 8 (nI (2 ^ m - 1)) = h3 at q3 g3 A3
    refine xq_n 36 [0] [(0, .ref 14)] [.int (Int32.ofInt 0), .ref 15, .ref 14, .ref 14] h3 [] 60 q3 rfl trivial (fun _ => ?_)
    refine xq_run q3 rfl rfl (lz15_q (hd := false) A3 m12 q3) ?_
    rintro v h4 ⟨rfl, g4, w15⟩
    have q4 := fx_q g4 q3
    have A4 := LA_f A3 g4 rfl rfl
    have cl : ∀ hd, cnt (mi W m hd) (2 ^ m) < 2 ^ 31 := fun hd => Nat.lt_of_le_of_lt (cnt_le _) (by omega)
    rw [mn_e (cl false)]
    refine xq_n 49 [0] [(0, .ref 14)] [.int (Int32.ofInt 1), .ref 16, .ref 14, .ref 14] (xh_ui h4 14 9 (nI (lcn (mi W m false) (2 ^ m)))) [] 60 q4 rfl trivial (fun _ => ?_)
    have q5 : a_rq a_tb (xh_ui h4 14 9 (nI (lcn (mi W m false) (2 ^ m)))) := a_rq_ui q4
    have g5 : fx SY fN h0 (xh_ui h4 14 9 (nI (lcn (mi W m false) (2 ^ m)))) := fx_ui (SY_w (fun _ _ => SY_15) g3 g4) rfl
    have A5 : LA W m q r (xh_ui h4 14 9 (nI (lcn (mi W m false) (2 ^ m)))) := LA_f (S := fun c k => Nat.beq c 14 && Nat.beq k 9) A4 (fx_ui fx_0 rfl) rfl rfl
    have e9 : xg 0 (xh_ui h4 14 9 (nI (lcn (mi W m false) (2 ^ m)))).2.1 14 9 = nI (lcn (mi W m false) (2 ^ m)) := gx_s
    have w15 : rwQ (mi W m false) (2 ^ m) 15 (xh_ui h4 14 9 (nI (lcn (mi W m false) (2 ^ m)))) := fun t h1 h2 h3 => (gx_o (by decide)).trans (w15 t h1 h2 h3)
    generalize xh_ui h4 14 9 (nI (lcn (mi W m false) (2 ^ m))) = h5 at q5 g5 A5 e9 w15
    refine xq_run q5 rfl rfl (lz16_q (hd := true) A5 m12 q5) ?_
    rintro v h6 ⟨rfl, g6, w16⟩
    have q6 := fx_q g6 q5
    have A6 := LA_f A5 g6 rfl rfl
    rw [mn_e (cl true)]
    refine xq_n 56 [0] [(0, .ref 14)] [.ref 14] (xh_ui h6 14 10 (nI (lcn (mi W m true) (2 ^ m)))) [] 60 q6 rfl trivial (fun _ => ?_)
    have q7 : a_rq a_tb (xh_ui h6 14 10 (nI (lcn (mi W m true) (2 ^ m)))) := a_rq_ui q6
    have g7 : fx SY fN h0 (xh_ui h6 14 10 (nI (lcn (mi W m true) (2 ^ m)))) := fx_ui (SY_w (fun _ _ => SY_16) g5 g6) rfl
    have A7 : LA W m q r (xh_ui h6 14 10 (nI (lcn (mi W m true) (2 ^ m)))) := LA_f (S := fun c k => Nat.beq c 14 && Nat.beq k 10) A6 (fx_ui fx_0 rfl) rfl rfl
    have e9 : xg 0 (xh_ui h6 14 10 (nI (lcn (mi W m true) (2 ^ m)))).2.1 14 9 = nI (lcn (mi W m false) (2 ^ m)) := (gx_k (by decide)).trans ((fx_i g6 rfl).trans e9)
    have e10 : xg 0 (xh_ui h6 14 10 (nI (lcn (mi W m true) (2 ^ m)))).2.1 14 10 = nI (lcn (mi W m true) (2 ^ m)) := gx_s
    have w15 : rwQ (mi W m false) (2 ^ m) 15 (xh_ui h6 14 10 (nI (lcn (mi W m true) (2 ^ m)))) := fun t h1 h2 h3 => (gx_o (by decide)).trans ((fx_i g6 rfl).trans (w15 t h1 h2 h3))
    have w16 : rwQ (mi W m true) (2 ^ m) 16 (xh_ui h6 14 10 (nI (lcn (mi W m true) (2 ^ m)))) := fun t h1 h2 h3 => (gx_o (by decide)).trans (w16 t h1 h2 h3)
    generalize xh_ui h6 14 10 (nI (lcn (mi W m true) (2 ^ m))) = h7 at q7 g7 A7 e9 e10 w15 w16
    refine xq_run q7 rfl rfl (mkn_q (L := lcn (mi W m false) (2 ^ m)) (Nat.min_le_right _ _) e9 q7) ?_
    rintro v h8 ⟨rfl, g8, w11, w12⟩
    have q8 := fx_q g8 q7
    have A8 := LA_f A7 g8 rfl rfl
    refine xq_n 61 [0, 3] [(0, .ref 14), (3, .int (Int32.ofInt 0))] [] h8 [] 60 q8 rfl trivial (fun _ => ?_)
    refine syl_q A8 m12 (fun f h9 q9 g9 w17 => ?_) m f 0 h8 (by omega) q8 fx_0 (fun a' ha' => absurd ha' (Nat.not_lt_zero a'))
    have A9 := LA_f A8 g9 rfl rfl
    refine xq_run q9 rfl rfl (cal_q A9 m12 q9) ?_
    rintro v h10 ⟨rfl, g10, w19⟩
    have k8 : ∀ c k, SM c k = false → S17 c k = false → S19 c k = false → xg 0 h10.2.1 c k = xg 0 h7.2.1 c k := fun c k z1 z2 z3 => (fx_i g10 z3).trans ((fx_i g9 z2).trans (fx_i g8 z1))
    have e15 : (fun k => xg 0 h10.2.1 15 k) = fun k => xg 0 h7.2.1 15 k := funext (fun k => k8 15 k rfl rfl rfl)
    have gg : fx SY fN h0 h10 := SY_w (fun _ _ => SY_19) (SY_w (fun _ _ => SY_17) (SY_w (fun _ _ => SY_M) g7 g8) g9) g10
    refine xq_ret rfl rfl rfl ⟨rfl, LA_f A9 g10 rfl rfl, ⟨fun a ha => (fx_i g10 rfl).trans (w17 a ha), w19, ⟨(k8 14 9 rfl rfl rfl).trans e9, fun t h1 h2 h3 => (k8 15 _ rfl rfl rfl).trans (w15 t h1 h2 h3)⟩, ⟨(k8 14 10 rfl rfl rfl).trans e10, fun t h1 h2 h3 => (k8 16 _ rfl rfl rfl).trans (w16 t h1 h2 h3)⟩, ?_, ?_⟩, gg.1.trans (by rw [← hh]; rfl), fun c k z => (fx_i gg z).trans (by rw [← hh]; rfl), fun c k => (gg.2.2.2 c k rfl).trans (by rw [← hh]; rfl), fun c k z => by rw [gg.2.1]; exact ur c k z⟩
    · rw [e15, ← A7.2.2.2.2.2.1, ← w11]; exact (fx_i g10 rfl).trans (fx_i g9 rfl)
    · rw [e15, ← A7.2.2.2.2.2.1, ← w12]; exact (fx_i g10 rfl).trans (fx_i g9 rfl)
end XPS
