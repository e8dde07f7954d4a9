section XGR
set_option maxRecDepth 100000 in
set_option maxHeartbeats 4000000 in
theorem rlt_q {f c : Nat} {h : xh_H} (hc : c < 256) (hq : a_rq a_tb h) : xq f xi_X10_isLetter xmi_X10_isLetter 0 [(0, .int (nI c))] [] h (fun v h' => h = h' ∧ v = some (.int (bl (p_lt c)))) := by
  cases c1 : xe_c .lt (nI c) 97 with
  | true =>
    have z1 : c < 97 := nq_ltt (a := c) (b := 97) (by omega) (by omega) c1
    refine xq_n 17 [] [] [.int (Int32.ofInt 0)] h [true] 6 hq rfl ⟨c1, trivial⟩ (fun hq => ?_)
    exact xq_ret rfl rfl rfl ⟨rfl, by rw [show p_lt c = false from decide_eq_false (by omega)]; rfl⟩
  | false =>
    have z1 : c ≥ 97 := nq_ltf (a := c) (b := 97) (by omega) (by omega) c1
    cases c2 : xe_c .gt (nI c) 122 with
    | true =>
      have z2 : c > 122 := nq_gtt (a := c) (b := 122) (by omega) (by omega) c2
      refine xq_n 17 [] [] [.int (Int32.ofInt 0)] h [false, true] 9 hq rfl ⟨c1, c2, trivial⟩ (fun hq => ?_)
      exact xq_ret rfl rfl rfl ⟨rfl, by rw [show p_lt c = false from decide_eq_false (by omega)]; rfl⟩
    | false =>
      have z2 : c ≤ 122 := nq_gtf (a := c) (b := 122) (by omega) (by omega) c2
      refine xq_n 17 [] [] [.int (Int32.ofInt 1)] h [false, false] 10 hq rfl ⟨c1, c2, trivial⟩ (fun hq => ?_)
      exact xq_ret rfl rfl rfl ⟨rfl, by rw [show p_lt c = true from decide_eq_true (by omega)]; rfl⟩
set_option maxRecDepth 100000 in
set_option maxHeartbeats 4000000 in
theorem rdg_q {f c : Nat} {h : xh_H} (hc : c < 256) (hq : a_rq a_tb h) : xq f xi_X10_isDigit xmi_X10_isDigit 0 [(0, .int (nI c))] [] h (fun v h' => h = h' ∧ v = some (.int (bl (p_dg c)))) := by
  cases c1 : xe_c .lt (nI c) 48 with
  | true =>
    have z1 : c < 48 := nq_ltt (a := c) (b := 48) (by omega) (by omega) c1
    refine xq_n 17 [] [] [.int (Int32.ofInt 0)] h [true] 6 hq rfl ⟨c1, trivial⟩ (fun hq => ?_)
    exact xq_ret rfl rfl rfl ⟨rfl, by rw [show p_dg c = false from decide_eq_false (by omega)]; rfl⟩
  | false =>
    have z1 : c ≥ 48 := nq_ltf (a := c) (b := 48) (by omega) (by omega) c1
    cases c2 : xe_c .gt (nI c) 57 with
    | true =>
      have z2 : c > 57 := nq_gtt (a := c) (b := 57) (by omega) (by omega) c2
      refine xq_n 17 [] [] [.int (Int32.ofInt 0)] h [false, true] 9 hq rfl ⟨c1, c2, trivial⟩ (fun hq => ?_)
      exact xq_ret rfl rfl rfl ⟨rfl, by rw [show p_dg c = false from decide_eq_false (by omega)]; rfl⟩
    | false =>
      have z2 : c ≤ 57 := nq_gtf (a := c) (b := 57) (by omega) (by omega) c2
      refine xq_n 17 [] [] [.int (Int32.ofInt 1)] h [false, false] 10 hq rfl ⟨c1, c2, trivial⟩ (fun hq => ?_)
      exact xq_ret rfl rfl rfl ⟨rfl, by rw [show p_dg c = true from decide_eq_true (by omega)]; rfl⟩
set_option maxRecDepth 100000 in
set_option maxHeartbeats 4000000 in
theorem rsn_q {f c : Nat} {h : xh_H} (hc : c < 256) (hq : a_rq a_tb h) : xq f xi_X10_isMark xmi_X10_isMark 0 [(0, .int (nI c))] [] h (fun v h' => h = h' ∧ v = some (.int (bl (p_sn c)))) := by
  cases c1 : xe_c .eq (nI c) 59 with
  | true =>
    have z1 : c = 59 := nq_eqt (a := c) (b := 59) (by omega) (by omega) c1
    refine xq_n 47 [] [] [.int (Int32.ofInt 1)] h [true] 7 hq rfl ⟨c1, trivial⟩ (fun hq => ?_)
    exact xq_ret rfl rfl rfl ⟨rfl, by rw [show p_sn c = true from decide_eq_true (by omega)]; rfl⟩
  | false =>
    have z1 : c ≠ 59 := nq_eqf (a := c) (b := 59) (by omega) (by omega) c1
    cases c2 : xe_c .eq (nI c) 58 with
    | true =>
      have z2 : c = 58 := nq_eqt (a := c) (b := 58) (by omega) (by omega) c2
      refine xq_n 47 [] [] [.int (Int32.ofInt 1)] h [false, true] 10 hq rfl ⟨c1, c2, trivial⟩ (fun hq => ?_)
      exact xq_ret rfl rfl rfl ⟨rfl, by rw [show p_sn c = true from decide_eq_true (by omega)]; rfl⟩
    | false =>
      have z2 : c ≠ 58 := nq_eqf (a := c) (b := 58) (by omega) (by omega) c2
      cases c3 : xe_c .eq (nI c) 42 with
      | true =>
        have z3 : c = 42 := nq_eqt (a := c) (b := 42) (by omega) (by omega) c3
        refine xq_n 47 [] [] [.int (Int32.ofInt 1)] h [false, false, true] 13 hq rfl ⟨c1, c2, c3, trivial⟩ (fun hq => ?_)
        exact xq_ret rfl rfl rfl ⟨rfl, by rw [show p_sn c = true from decide_eq_true (by omega)]; rfl⟩
      | false =>
        have z3 : c ≠ 42 := nq_eqf (a := c) (b := 42) (by omega) (by omega) c3
        cases c4 : xe_c .eq (nI c) 40 with
        | true =>
          have z4 : c = 40 := nq_eqt (a := c) (b := 40) (by omega) (by omega) c4
          refine xq_n 47 [] [] [.int (Int32.ofInt 1)] h [false, false, false, true] 16 hq rfl ⟨c1, c2, c3, c4, trivial⟩ (fun hq => ?_)
          exact xq_ret rfl rfl rfl ⟨rfl, by rw [show p_sn c = true from decide_eq_true (by omega)]; rfl⟩
        | false =>
          have z4 : c ≠ 40 := nq_eqf (a := c) (b := 40) (by omega) (by omega) c4
          cases c5 : xe_c .eq (nI c) 41 with
          | true =>
            have z5 : c = 41 := nq_eqt (a := c) (b := 41) (by omega) (by omega) c5
            refine xq_n 47 [] [] [.int (Int32.ofInt 1)] h [false, false, false, false, true] 19 hq rfl ⟨c1, c2, c3, c4, c5, trivial⟩ (fun hq => ?_)
            exact xq_ret rfl rfl rfl ⟨rfl, by rw [show p_sn c = true from decide_eq_true (by omega)]; rfl⟩
          | false =>
            have z5 : c ≠ 41 := nq_eqf (a := c) (b := 41) (by omega) (by omega) c5
            cases c6 : xe_c .eq (nI c) 91 with
            | true =>
              have z6 : c = 91 := nq_eqt (a := c) (b := 91) (by omega) (by omega) c6
              refine xq_n 47 [] [] [.int (Int32.ofInt 1)] h [false, false, false, false, false, true] 22 hq rfl ⟨c1, c2, c3, c4, c5, c6, trivial⟩ (fun hq => ?_)
              exact xq_ret rfl rfl rfl ⟨rfl, by rw [show p_sn c = true from decide_eq_true (by omega)]; rfl⟩
            | false =>
              have z6 : c ≠ 91 := nq_eqf (a := c) (b := 91) (by omega) (by omega) c6
              cases c7 : xe_c .ne (nI c) 93 with
              | true =>
                have z7 : c ≠ 93 := nq_net (a := c) (b := 93) (by omega) (by omega) c7
                refine xq_n 47 [] [] [.int (Int32.ofInt 0)] h [false, false, false, false, false, false, true] 24 hq rfl ⟨c1, c2, c3, c4, c5, c6, c7, trivial⟩ (fun hq => ?_)
                exact xq_ret rfl rfl rfl ⟨rfl, by rw [show p_sn c = false from decide_eq_false (by omega)]; rfl⟩
              | false =>
                have z7 : c = 93 := nq_nef (a := c) (b := 93) (by omega) (by omega) c7
                refine xq_n 47 [] [] [.int (Int32.ofInt 1)] h [false, false, false, false, false, false, false] 25 hq rfl ⟨c1, c2, c3, c4, c5, c6, c7, trivial⟩ (fun hq => ?_)
                exact xq_ret rfl rfl rfl ⟨rfl, by rw [show p_sn c = true from decide_eq_true (by omega)]; rfl⟩
/-- the reference's tape, while a text is read -/
def rtp (h : xh_H) (T : Nat → Nat) (n : Nat) : Prop := xg 0 h.2.1 39 6 = nI n ∧ n ≤ 640 ∧ ∀ k, k < n → T k < 256 ∧ xg 0 h.2.1 40 k = nI (T k)
theorem rtp_f {S L : Nat → Nat → Bool} {h h' : xh_H} {T : Nat → Nat} {n : Nat} (hc : rtp h T n) (g : fx S L h h') (e1 : S 39 6 = false) (e2 : ∀ k, S 40 k = false) : rtp h' T n := by
  refine ⟨by rw [fx_i g e1]; exact hc.1, hc.2.1, fun k hk' => ?_⟩
  rw [fx_i g (e2 k)]
  exact hc.2.2 k hk'
/-- the reference's token -/
def rkk (T : Nat → Nat) (n p : Nat) : Nat := if tkk T n p = 0 then (if n ≤ 600 then 0 else 1) else if tkk T n p = 1 then 1 else if tkk T n p = 2 then 2 else if tkk T n p = 3 then 3 else 4
def rtk (h : xh_H) (T : Nat → Nat) (n p : Nat) : Prop := xg 0 h.2.1 39 8 = nI (tks T n p) ∧ xg 0 h.2.1 39 9 = nI (rkk T n p) ∧ (tkk T n p = 2 → xg 0 h.2.1 39 12 = nI (tke T n p - tks T n p) ∧ xg 0 h.2.2.1 39 15 = Int64.ofNat (tkw T n p)) ∧ (tkk T n p = 3 → xg 0 h.2.1 39 10 = nI (tkn T n p)) ∧ (40 ≤ tkk T n p → xg 0 h.2.1 39 11 = nI (tkk T n p)) ∧ (tkk T n p ≠ 0 → xg 0 h.2.1 39 7 = nI (tke T n p))
theorem tkk_k {T : Nat → Nat} {n p : Nat} : tkk T n p ≤ 3 ∨ 40 ≤ tkk T n p := by
  rcases tkk_cs (T := T) (n := n) (p := p) with ⟨-, e⟩ | ⟨-, -, e, -⟩ | ⟨h1, h2, e, -⟩ | ⟨-, e, -⟩
  · omega
  · rcases kw_le (l := cL T (tks T n p) (rn T n (tks T n p) - tks T n p)) (d := cD T (tks T n p) (rn T n (tks T n p) - tks T n p)) with z | z | z <;> omega
  · have := sn_ge h2
    omega
  · omega
theorem rkk_k {T : Nat → Nat} {n p : Nat} : rkk T n p ≤ 4 ∧ (rkk T n p = 2 ↔ tkk T n p = 2) ∧ (rkk T n p = 3 ↔ tkk T n p = 3) ∧ (rkk T n p = 4 ↔ 40 ≤ tkk T n p) ∧ (rkk T n p = 0 ↔ (tkk T n p = 0 ∧ n ≤ 600)) ∧ (rkk T n p = 1 ↔ (tkk T n p = 1 ∨ (tkk T n p = 0 ∧ 600 < n))) := by
  have := tkk_k (T := T) (n := n) (p := p)
  unfold rkk
  split
  · split <;> omega
  · split
    · omega
    · split
      · omega
      · split <;> omega
theorem rk2 {T : Nat → Nat} {n p : Nat} : rkk T n p = 2 ↔ tkk T n p = 2 := rkk_k.2.1
theorem rk3 {T : Nat → Nat} {n p : Nat} : rkk T n p = 3 ↔ tkk T n p = 3 := rkk_k.2.2.1
theorem rk4 {T : Nat → Nat} {n p : Nat} : rkk T n p = 4 ↔ 40 ≤ tkk T n p := rkk_k.2.2.2.1
theorem rk0 {T : Nat → Nat} {n p : Nat} : rkk T n p = 0 ↔ (tkk T n p = 0 ∧ n ≤ 600) := rkk_k.2.2.2.2.1
theorem rk1 {T : Nat → Nat} {n p : Nat} : rkk T n p = 1 ↔ (tkk T n p = 1 ∨ (tkk T n p = 0 ∧ 600 < n)) := rkk_k.2.2.2.2.2
def gS (c k : Nat) : Bool := Nat.beq c 39 && (Nat.ble 7 k && Nat.ble k 12)
def gL (c k : Nat) : Bool := Nat.beq c 39 && Nat.beq k 15
def gr_Q (h0 : xh_H) (T : Nat → Nat) (n p : Nat) (v : Option Value) (h' : xh_H) : Prop := v = none ∧ fx gS gL h0 h' ∧ rtk h' T n p
theorem blne {a b : Bool} : xe_c .ne (bl a) (bl b) = (a != b) := by cases a <;> cases b <;> rfl
/-- so far all are as the first one -/
def gd (w : Bool) (T : Nat → Nat) (q m : Nat) : Bool := cond w (Nat.beq (cD T q m) 0) (Nat.beq (cL T q m) 0)
theorem nI_val2 {v c : Nat} (hc : 48 ≤ c) : 10 * nI v + nI c - 48 = nI (v * 10 + (c - 48)) := by
  rw [show (10 : Int32) * nI v = nI v * 10 from Int32.mul_comm _ _]
  exact nI_val hc
theorem wl_val {w c : Nat} (hc : 96 ≤ c) (h2 : c < 256) : 27 * Int64.ofNat w + (nI c).toInt64 - 96 = Int64.ofNat (27 * w + (c - 96)) := by
  obtain ⟨j, rfl⟩ : ∃ j, c = j + 96 := ⟨c - 96, by omega⟩
  have e1 : (nI (j + 96)).toInt64 = Int64.ofNat (j + 96) := by
    apply Int64.toInt_inj.mp
    rw [Int32.toInt_toInt64, nI_toInt (by omega), Int64.toInt_ofNat_of_lt (by omega)]
  rw [e1, show (27 : Int64) = Int64.ofNat 27 from rfl, show (96 : Int64) = Int64.ofNat 96 from rfl, ← Int64.ofNat_mul, Int64.ofNat_add j 96, ← Int64.add_assoc, Int64.add_sub_cancel, Nat.add_sub_cancel, ← Int64.ofNat_add]
set_option maxRecDepth 100000 in
set_option maxHeartbeats 4000000 in
theorem bt_q {f p n : Nat} {T : Nat → Nat} {h : xh_H} (hc : rtp h T n) (hp : p < n) (p6 : p ≤ 640) (hq : a_rq a_tb h) : xq f xi_X10_byteAt xmi_X10_byteAt 0 [(0, .ref 39), (1, .int (nI p))] [] h (fun v h' => h = h' ∧ v = some (.int (nI (T p)))) := by
  have n6 := hc.2.1
  cases c1 : xe_c .ge (nI p) (nI n) with
  | true =>
    have z1 : p ≥ n := nq_get (a := p) (b := n) (by omega) (by omega) c1
    omega
  | false =>
    have z1 : p < n := nq_gef (a := p) (b := n) (by omega) (by omega) c1
    refine xq_n 18 [] [] [.int (xg 0 h.2.1 40 ((nI p).toNatClampNeg))] h [false] 11 hq rfl ⟨(show xe_c .ge (nI p) (xg 0 h.2.1 39 6) = false by rw [show (xg 0 h.2.1 39 6) = (nI n) from hc.1]; exact c1), trivial⟩ (fun hq => ?_)
    rw [show (xg 0 h.2.1 40 ((nI p).toNatClampNeg)) = xg 0 h.2.1 40 p from (by rw [show ((nI p).toNatClampNeg) = p from nI_clamp (by omega)])]
    exact xq_ret rfl rfl rfl ⟨rfl, by rw [(hc.2.2 p hp).2]⟩
set_option maxRecDepth 100000 in
set_option maxHeartbeats 4000000 in
theorem bt_z {f p n : Nat} {T : Nat → Nat} {h : xh_H} (hc : rtp h T n) (hp : n ≤ p) (p6 : p ≤ 640) (hq : a_rq a_tb h) : xq f xi_X10_byteAt xmi_X10_byteAt 0 [(0, .ref 39), (1, .int (nI p))] [] h (fun v h' => h = h' ∧ v = some (.int (nI 0))) := by
  have n6 := hc.2.1
  cases c1 : xe_c .ge (nI p) (nI n) with
  | true =>
    have z1 : p ≥ n := nq_get (a := p) (b := n) (by omega) (by omega) c1
    refine xq_n 18 [] [] [.int (Int32.ofInt 0)] h [true] 7 hq rfl ⟨(show xe_c .ge (nI p) (xg 0 h.2.1 39 6) = true by rw [show (xg 0 h.2.1 39 6) = (nI n) from hc.1]; exact c1), trivial⟩ (fun hq => ?_)
    exact xq_ret rfl rfl rfl ⟨rfl, rfl⟩
  | false =>
    have z1 : p < n := nq_gef (a := p) (b := n) (by omega) (by omega) c1
    omega
theorem cL_pos {T : Nat → Nat} {q : Nat} (h : p_lt (T q) = true) : ∀ {m : Nat}, 1 ≤ m → 1 ≤ cL T q m := by
  intro m
  induction m with
  | zero => intro z; omega
  | succ m ih =>
    intro _
    show 1 ≤ cL T q m + cond (p_lt (T (q + m))) 1 0
    cases m with
    | zero => rw [Nat.add_zero, h]; show 1 ≤ 0 + 1; omega
    | succ m => have := ih (by omega); omega
theorem cD_pos {T : Nat → Nat} {q : Nat} (h : p_dg (T q) = true) : ∀ {m : Nat}, 1 ≤ m → 1 ≤ cD T q m := by
  intro m
  induction m with
  | zero => intro z; omega
  | succ m ih =>
    intro _
    show 1 ≤ cD T q m + cond (p_dg (T (q + m))) 1 0
    cases m with
    | zero => rw [Nat.add_zero, h]; show 1 ≤ 0 + 1; omega
    | succ m => have := ih (by omega); omega
theorem beq_f {a : Nat} (h : a ≠ 0) : Nat.beq a 0 = false := by
  rw [Bool.eq_false_iff]
  intro z
  exact h (Nat.eq_of_beq_eq_true z)
theorem kw_gd {T : Nat → Nat} {q m : Nat} {w : Bool} (han : ∀ k, q ≤ k → k < q + m → p_an (T k) = true) (m1 : 1 ≤ m) (hw0 : w = p_lt (T q)) : kw (cL T q m) (cD T q m) = cond (gd w T q m) (cond w (if m ≤ 8 then 2 else 1) (if m ≤ 3 then 3 else 1)) 1 := by
  have e := cLD (T := T) (q := q) (m := m) han
  cases hw : p_lt (T q) with
  | true =>
    have l1 := cL_pos hw m1
    rw [hw0, hw]
    unfold gd kw
    dsimp only [cond]
    by_cases z : cD T q m = 0
    · rw [z, show Nat.beq 0 0 = true from rfl]
      dsimp only
      by_cases y : m ≤ 8
      · rw [if_pos (by omega), if_pos y]
      · rw [if_neg (by omega), if_neg (by omega), if_neg y]
    · rw [beq_f z, if_neg (by omega), if_neg (by omega)]
  | false =>
    have hd : p_dg (T q) = true := by
      rcases p_an_or (han q (Nat.le_refl _) (by omega)) with y | y
      · rw [hw] at y; cases y
      · exact y
    have l1 := cD_pos hd m1
    rw [hw0, hw]
    unfold gd kw
    dsimp only [cond]
    by_cases z : cL T q m = 0
    · rw [z, show Nat.beq 0 0 = true from rfl]
      dsimp only
      by_cases y : m ≤ 3
      · rw [if_neg (by omega), if_pos (by omega), if_pos y]
      · rw [if_neg (by omega), if_neg (by omega), if_neg y]
    · rw [beq_f z, if_neg (by omega), if_neg (by omega)]
theorem gd_t {w : Bool} {T : Nat → Nat} {q m : Nat} (h : gd w T q m = true) : (w = true → cD T q m = 0) ∧ (w = false → cL T q m = 0) := by
  constructor
  · rintro rfl
    exact Nat.eq_of_beq_eq_true h
  · rintro rfl
    exact Nat.eq_of_beq_eq_true h
set_option maxRecDepth 100000 in
set_option maxHeartbeats 4000000 in
theorem go_end {f n p q m : Nat} {T : Nat → Nat} {h0 h : xh_H} {w : Bool} (hq : a_rq a_tb h) (g0 : fx gS gL h0 h) (n6 : n ≤ 640) (e7 : xg 0 h.2.1 39 7 = nI (q + m)) (e8 : xg 0 h.2.1 39 8 = nI q) (hmn : q + m ≤ n) (et : tks T n p = q) (hL : q < min n 600) (han : ∀ k, q ≤ k → k < q + m → p_an (T k) = true) (hw0 : w = p_lt (T q)) (hw : w = true → cD T q m = 0 → xg 0 h.2.2.1 39 15 = Int64.ofNat (wv T q (min m 8))) (hv : w = false → cL T q m = 0 → xg 0 h.2.1 39 10 = nI (vf T q m)) (m1 : 1 ≤ m) (er : rn T n q = q + m) : xq f xi_X10_go xmi_X10_go 318 [(0, .ref 39), (2, .int (bl w)), (3, .int (bl (gd w T q m)))] [] h (gr_Q h0 T n p) := by
  have han1 := han q (Nat.le_refl _) (by omega)
  have ek : tkk T n p = kw (cL T q m) (cD T q m) := by unfold tkk kq; rw [et, if_neg (by omega), if_pos han1, er, Nat.add_sub_cancel_left]
  have ee : tke T n p = q + m := by unfold tke eq_; rw [et, if_pos han1, er]
  cases b1 : (gd w T q m) with
  | true =>
    cases b2 : w with
    | true =>
      cases c3 : xe_c .le (nI (q + m - q)) 8 with
      | true =>
        have z3 : (q + m - q) ≤ 8 := nq_let (a := (q + m - q)) (b := 8) (by omega) (by omega) c3
        refine xq_n 369 [] [] [] (xh_ui (xh_ui h 39 12 ((xg 0 h.2.1 39 7) - (xg 0 h.2.1 39 8))) 39 9 (Int32.ofInt 2)) [false, false, true, false] 24 hq rfl ⟨rfl, rfl, (show xe_c .le (xg 0 (xh_ui h 39 12 ((xg 0 h.2.1 39 7) - (xg 0 h.2.1 39 8))).2.1 39 12) 8 = true by rw [show (xg 0 (xh_ui h 39 12 ((xg 0 h.2.1 39 7) - (xg 0 h.2.1 39 8))).2.1 39 12) = ((xg 0 h.2.1 39 7) - (xg 0 h.2.1 39 8)) from gx_s, show (xg 0 h.2.1 39 7) = (nI (q + m)) from e7, show (xg 0 h.2.1 39 8) = (nI q) from e8, show ((nI (q + m)) - (nI q)) = nI (q + m - q) from nI_sub (by omega)]; exact c3), rfl, trivial⟩ (fun _ => ?_)
        rw [show (xg 0 h.2.1 39 7) = (nI (q + m)) from e7]
        rw [show (xg 0 h.2.1 39 8) = (nI q) from e8]
        rw [show ((nI (q + m)) - (nI q)) = nI (q + m - q) from nI_sub (by omega)]
        have hq : a_rq a_tb (xh_ui (xh_ui h 39 12 (nI (q + m - q))) 39 9 (Int32.ofInt 2)) := a_rq_ui (a_rq_ui hq)
        have ekk : tkk T n p = 2 := by rw [ek, kw_gd han m1 hw0, b1, b2]; exact if_pos (by omega)
        refine xq_ret rfl rfl rfl ⟨rfl, fx_ui (fx_ui (g0) rfl) rfl, ?_, ?_, ?_, ?_, ?_, ?_⟩
        · rw [et]; exact (gx_k (by decide)).trans ((gx_k (by decide)).trans (e8))
        · rw [show rkk T n p = 2 by have := rkk_k (T := T) (n := n) (p := p); omega]; exact gx_s
        · exact fun _ => ⟨by rw [ee, et]; exact (gx_k (by decide)).trans (gx_s), by unfold tkw; rw [ee, et, Nat.add_sub_cancel_left]; exact (hw b2 ((gd_t b1).1 b2)).trans (by rw [show min m 8 = m by omega])⟩
        · exact fun z => by omega
        · exact fun z => by omega
        · exact fun _ => by rw [ee]; exact (gx_k (by decide)).trans ((gx_k (by decide)).trans (e7))
      | false =>
        have z3 : (q + m - q) > 8 := nq_lef (a := (q + m - q)) (b := 8) (by omega) (by omega) c3
        refine xq_n 369 [] [] [] (xh_ui (xh_ui h 39 12 ((xg 0 h.2.1 39 7) - (xg 0 h.2.1 39 8))) 39 9 (Int32.ofInt 1)) [false, false, false] 22 hq rfl ⟨rfl, rfl, (show xe_c .le (xg 0 (xh_ui h 39 12 ((xg 0 h.2.1 39 7) - (xg 0 h.2.1 39 8))).2.1 39 12) 8 = false by rw [show (xg 0 (xh_ui h 39 12 ((xg 0 h.2.1 39 7) - (xg 0 h.2.1 39 8))).2.1 39 12) = ((xg 0 h.2.1 39 7) - (xg 0 h.2.1 39 8)) from gx_s, show (xg 0 h.2.1 39 7) = (nI (q + m)) from e7, show (xg 0 h.2.1 39 8) = (nI q) from e8, show ((nI (q + m)) - (nI q)) = nI (q + m - q) from nI_sub (by omega)]; exact c3), trivial⟩ (fun _ => ?_)
        rw [show (xg 0 h.2.1 39 7) = (nI (q + m)) from e7]
        rw [show (xg 0 h.2.1 39 8) = (nI q) from e8]
        rw [show ((nI (q + m)) - (nI q)) = nI (q + m - q) from nI_sub (by omega)]
        have hq : a_rq a_tb (xh_ui (xh_ui h 39 12 (nI (q + m - q))) 39 9 (Int32.ofInt 1)) := a_rq_ui (a_rq_ui hq)
        have ekk : tkk T n p = 1 := by rw [ek, kw_gd han m1 hw0, b1, b2]; exact if_neg (by omega)
        refine xq_ret rfl rfl rfl ⟨rfl, fx_ui (fx_ui (g0) rfl) rfl, ?_, ?_, ?_, ?_, ?_, ?_⟩
        · rw [et]; exact (gx_k (by decide)).trans ((gx_k (by decide)).trans (e8))
        · rw [show rkk T n p = 1 by have := rkk_k (T := T) (n := n) (p := p); omega]; exact gx_s
        · exact fun z => by omega
        · exact fun z => by omega
        · exact fun z => by omega
        · exact fun _ => by rw [ee]; exact (gx_k (by decide)).trans ((gx_k (by decide)).trans (e7))
    | false =>
      cases c4 : xe_c .le (nI (q + m - q)) (Int32.ofInt 3) with
      | true =>
        have z4 : (q + m - q) ≤ 3 := nq_let (a := (q + m - q)) (b := 3) (by omega) (by omega) c4
        refine xq_n 369 [] [] [] (xh_ui (xh_ui h 39 12 ((xg 0 h.2.1 39 7) - (xg 0 h.2.1 39 8))) 39 9 (Int32.ofInt 3)) [false, true, true, true] 22 hq rfl ⟨rfl, rfl, (show xe_c .le (xg 0 (xh_ui h 39 12 ((xg 0 h.2.1 39 7) - (xg 0 h.2.1 39 8))).2.1 39 12) (Int32.ofInt 3) = true by rw [show (xg 0 (xh_ui h 39 12 ((xg 0 h.2.1 39 7) - (xg 0 h.2.1 39 8))).2.1 39 12) = ((xg 0 h.2.1 39 7) - (xg 0 h.2.1 39 8)) from gx_s, show (xg 0 h.2.1 39 7) = (nI (q + m)) from e7, show (xg 0 h.2.1 39 8) = (nI q) from e8, show ((nI (q + m)) - (nI q)) = nI (q + m - q) from nI_sub (by omega)]; exact c4), rfl, trivial⟩ (fun _ => ?_)
        rw [show (xg 0 h.2.1 39 7) = (nI (q + m)) from e7]
        rw [show (xg 0 h.2.1 39 8) = (nI q) from e8]
        rw [show ((nI (q + m)) - (nI q)) = nI (q + m - q) from nI_sub (by omega)]
        have hq : a_rq a_tb (xh_ui (xh_ui h 39 12 (nI (q + m - q))) 39 9 (Int32.ofInt 3)) := a_rq_ui (a_rq_ui hq)
        have ekk : tkk T n p = 3 := by rw [ek, kw_gd han m1 hw0, b1, b2]; exact if_pos (by omega)
        refine xq_ret rfl rfl rfl ⟨rfl, fx_ui (fx_ui (g0) rfl) rfl, ?_, ?_, ?_, ?_, ?_, ?_⟩
        · rw [et]; exact (gx_k (by decide)).trans ((gx_k (by decide)).trans (e8))
        · rw [show rkk T n p = 3 by have := rkk_k (T := T) (n := n) (p := p); omega]; exact gx_s
        · exact fun z => by omega
        · exact fun _ => by unfold tkn; rw [ee, et, Nat.add_sub_cancel_left]; exact (gx_k (by decide)).trans ((gx_k (by decide)).trans (hv b2 ((gd_t b1).2 b2)))
        · exact fun z => by omega
        · exact fun _ => by rw [ee]; exact (gx_k (by decide)).trans ((gx_k (by decide)).trans (e7))
      | false =>
        have z4 : (q + m - q) > 3 := nq_lef (a := (q + m - q)) (b := 3) (by omega) (by omega) c4
        refine xq_n 369 [] [] [] (xh_ui (xh_ui h 39 12 ((xg 0 h.2.1 39 7) - (xg 0 h.2.1 39 8))) 39 9 (Int32.ofInt 1)) [false, true, false] 21 hq rfl ⟨rfl, rfl, (show xe_c .le (xg 0 (xh_ui h 39 12 ((xg 0 h.2.1 39 7) - (xg 0 h.2.1 39 8))).2.1 39 12) (Int32.ofInt 3) = false by rw [show (xg 0 (xh_ui h 39 12 ((xg 0 h.2.1 39 7) - (xg 0 h.2.1 39 8))).2.1 39 12) = ((xg 0 h.2.1 39 7) - (xg 0 h.2.1 39 8)) from gx_s, show (xg 0 h.2.1 39 7) = (nI (q + m)) from e7, show (xg 0 h.2.1 39 8) = (nI q) from e8, show ((nI (q + m)) - (nI q)) = nI (q + m - q) from nI_sub (by omega)]; exact c4), trivial⟩ (fun _ => ?_)
        rw [show (xg 0 h.2.1 39 7) = (nI (q + m)) from e7]
        rw [show (xg 0 h.2.1 39 8) = (nI q) from e8]
        rw [show ((nI (q + m)) - (nI q)) = nI (q + m - q) from nI_sub (by omega)]
        have hq : a_rq a_tb (xh_ui (xh_ui h 39 12 (nI (q + m - q))) 39 9 (Int32.ofInt 1)) := a_rq_ui (a_rq_ui hq)
        have ekk : tkk T n p = 1 := by rw [ek, kw_gd han m1 hw0, b1, b2]; exact if_neg (by omega)
        refine xq_ret rfl rfl rfl ⟨rfl, fx_ui (fx_ui (g0) rfl) rfl, ?_, ?_, ?_, ?_, ?_, ?_⟩
        · rw [et]; exact (gx_k (by decide)).trans ((gx_k (by decide)).trans (e8))
        · rw [show rkk T n p = 1 by have := rkk_k (T := T) (n := n) (p := p); omega]; exact gx_s
        · exact fun z => by omega
        · exact fun z => by omega
        · exact fun z => by omega
        · exact fun _ => by rw [ee]; exact (gx_k (by decide)).trans ((gx_k (by decide)).trans (e7))
  | false =>
    refine xq_n 369 [] [] [] (xh_ui (xh_ui h 39 12 ((xg 0 h.2.1 39 7) - (xg 0 h.2.1 39 8))) 39 9 (Int32.ofInt 1)) [true] 15 hq rfl ⟨rfl, trivial⟩ (fun _ => ?_)
    rw [show (xg 0 h.2.1 39 7) = (nI (q + m)) from e7]
    rw [show (xg 0 h.2.1 39 8) = (nI q) from e8]
    rw [show ((nI (q + m)) - (nI q)) = nI (q + m - q) from nI_sub (by omega)]
    have hq : a_rq a_tb (xh_ui (xh_ui h 39 12 (nI (q + m - q))) 39 9 (Int32.ofInt 1)) := a_rq_ui (a_rq_ui hq)
    have ekk : tkk T n p = 1 := by rw [ek, kw_gd han m1 hw0, b1]; rfl
    refine xq_ret rfl rfl rfl ⟨rfl, fx_ui (fx_ui (g0) rfl) rfl, ?_, ?_, ?_, ?_, ?_, ?_⟩
    · rw [et]; exact (gx_k (by decide)).trans ((gx_k (by decide)).trans (e8))
    · rw [show rkk T n p = 1 by have := rkk_k (T := T) (n := n) (p := p); omega]; exact gx_s
    · exact fun z => by omega
    · exact fun z => by omega
    · exact fun z => by omega
    · exact fun _ => by rw [ee]; exact (gx_k (by decide)).trans ((gx_k (by decide)).trans (e7))
theorem vf_s {T : Nat → Nat} {q m : Nat} (han : ∀ k, q ≤ k → k < q + m → p_an (T k) = true) (l1 : p_dg (T (q + m)) = true) (h0 : cL T q m = 0) : vf T q (m + 1) = if m < 3 then vf T q m * 10 + (T (q + m) - 48) else vf T q m := by
  have lm := cLD (T := T) (q := q) (m := m) han
  have cdm : cD T q (m + 1) = m + 1 := by
    show cD T q m + cond (p_dg (T (q + m))) 1 0 = m + 1
    rw [l1]
    dsimp only [cond]
    omega
  show cond (p_dg (T (q + m)) && Nat.ble (cD T q (m + 1)) 3) (vf T q m * 10 + (T (q + m) - 48)) (vf T q m) = _
  rw [l1, cdm]
  by_cases y : m < 3
  · rw [show Nat.ble (m + 1) 3 = true from Nat.ble_eq.mpr (by omega), if_pos y]
    rfl
  · rw [show Nat.ble (m + 1) 3 = false from by rw [Bool.eq_false_iff]; intro y9; have := Nat.ble_eq.mp y9; omega, if_neg y]
    rfl
theorem c_s {T : Nat → Nat} {q m : Nat} (lord : (p_lt (T (q + m)) = true ∧ p_dg (T (q + m)) = false) ∨ (p_lt (T (q + m)) = false ∧ p_dg (T (q + m)) = true)) : (cD T q (m + 1) = 0 → cD T q m = 0 ∧ p_lt (T (q + m)) = true) ∧ (cL T q (m + 1) = 0 → cL T q m = 0 ∧ p_dg (T (q + m)) = true) := by
  have cl1 : cL T q (m + 1) = cL T q m + cond (p_lt (T (q + m))) 1 0 := rfl
  have cd1 : cD T q (m + 1) = cD T q m + cond (p_dg (T (q + m))) 1 0 := rfl
  rcases lord with ⟨l1, l2⟩ | ⟨l1, l2⟩
  · rw [l1] at cl1
    rw [l2] at cd1
    dsimp only [cond] at cl1 cd1
    exact ⟨fun z => ⟨by omega, l1⟩, fun z => by omega⟩
  · rw [l1] at cl1
    rw [l2] at cd1
    dsimp only [cond] at cl1 cd1
    exact ⟨fun z => by omega, fun z => ⟨by omega, l2⟩⟩
theorem gd_s {T : Nat → Nat} {q m : Nat} {w : Bool} (lord : (p_lt (T (q + m)) = true ∧ p_dg (T (q + m)) = false) ∨ (p_lt (T (q + m)) = false ∧ p_dg (T (q + m)) = true)) : gd w T q (m + 1) = (gd w T q m && !(p_lt (T (q + m)) != w)) := by
  have cl1 : cL T q (m + 1) = cL T q m + cond (p_lt (T (q + m))) 1 0 := rfl
  have cd1 : cD T q (m + 1) = cD T q m + cond (p_dg (T (q + m))) 1 0 := rfl
  unfold gd
  rw [cl1, cd1]
  rcases lord with ⟨l1, l2⟩ | ⟨l1, l2⟩
  · rw [l1, l2]
    cases w
    · show Nat.beq (cL T q m + 1) 0 = _
      rw [beq_f (by omega)]
      show false = (_ && false)
      rw [Bool.and_false]
    · show Nat.beq (cD T q m) 0 = (_ && true)
      rw [Bool.and_true]
      rfl
  · rw [l1, l2]
    cases w
    · show Nat.beq (cL T q m) 0 = (_ && true)
      rw [Bool.and_true]
      rfl
    · show Nat.beq (cD T q m + 1) 0 = _
      rw [beq_f (by omega)]
      show false = (_ && false)
      rw [Bool.and_false]
set_option maxRecDepth 100000 in
set_option maxHeartbeats 4000000 in
theorem go_s3 {f n q m : Nat} {T : Nat → Nat} {h0 h : xh_H} {w : Bool} {Q : Option Value → xh_H → Prop} (ih : ∀ h, a_rq a_tb h → fx gS gL h0 h → rtp h T n → xg 0 h.2.1 39 7 = nI (q + (m + 1)) → xg 0 h.2.1 39 8 = nI q → (w = true → cD T q (m + 1) = 0 → xg 0 h.2.2.1 39 15 = Int64.ofNat (wv T q (min (m + 1) 8))) → (w = false → cL T q (m + 1) = 0 → xg 0 h.2.1 39 10 = nI (vf T q (m + 1))) → xq f xi_X10_go xmi_X10_go 183 [(0, .ref 39), (2, .int (bl w)), (3, .int (bl (gd w T q (m + 1))))] [] h Q) (lord : (p_lt (T (q + m)) = true ∧ p_dg (T (q + m)) = false) ∨ (p_lt (T (q + m)) = false ∧ p_dg (T (q + m)) = true)) (hq : a_rq a_tb h) (g0 : fx gS gL h0 h) (hc : rtp h T n) (e7 : xg 0 h.2.1 39 7 = nI (q + m)) (e8 : xg 0 h.2.1 39 8 = nI q) (hmn : q + m < n) (han : ∀ k, q ≤ k → k < q + m → p_an (T k) = true) (hw : w = true → cD T q (m + 1) = 0 → xg 0 h.2.2.1 39 15 = Int64.ofNat (wv T q (min (m + 1) 8))) (hv : w = false → cL T q m = 0 → xg 0 h.2.1 39 10 = nI (vf T q m)) : xq f xi_X10_go xmi_X10_go 275 [(0, .ref 39), (2, .int (bl w)), (3, .int (bl (gd w T q (m + 1)))), (4, .int (nI (T (q + m))))] [] h Q := by
  have n6 := hc.2.1
  cases c1 : xe_c .ge (nI m) (Int32.ofInt 3) with
  | true =>
    have z1 : m ≥ 3 := nq_get (a := m) (b := 3) (by omega) (by omega) c1
    refine xq_n 183 [0, 2, 3] [(0, .ref 39), (2, .int (bl w)), (3, .int (bl (gd w T q (m + 1))))] [] (xh_ui h 39 7 ((xg 0 h.2.1 39 7) + (Int32.ofInt 1))) [true] 16 hq rfl ⟨(show xe_c .ge ((xg 0 h.2.1 39 7) - (xg 0 h.2.1 39 8)) (Int32.ofInt 3) = true by rw [show (xg 0 h.2.1 39 7) = (nI (q + m)) from e7, show (xg 0 h.2.1 39 8) = (nI q) from e8, show ((nI (q + m)) - (nI q)) = nI m from (by rw [nI_sub (by omega), Nat.add_sub_cancel_left])]; exact c1), trivial⟩ (fun _ => ?_)
    rw [show (xg 0 h.2.1 39 7) = (nI (q + m)) from e7]
    rw [show ((nI (q + m)) + (Int32.ofInt 1)) = nI (q + m + 1) from nI_1 _]
    have hq : a_rq a_tb (xh_ui h 39 7 (nI (q + m + 1))) := a_rq_ui hq
    refine ih _ hq (fx_ui (g0) rfl) (rtp_f (S := gS) (L := gL) hc (fx_ui (fx_0) rfl) rfl (fun _ => rfl)) (gx_s) ((gx_k (by decide)).trans (e8)) hw (fun y2 y3 => ?_)
    obtain ⟨y4, y5⟩ := (c_s lord).2 y3
    refine (gx_k (by decide)).trans ?_
    rw [vf_s han y5 y4, if_neg (by omega), hv y2 y4]
  | false =>
    have z1 : m < 3 := nq_gef (a := m) (b := 3) (by omega) (by omega) c1
    refine xq_n 183 [0, 2, 3] [(0, .ref 39), (2, .int (bl w)), (3, .int (bl (gd w T q (m + 1))))] [] (xh_ui (xh_ui h 39 10 (((10 * (xg 0 h.2.1 39 10)) + (nI (T (q + m)))) - 48)) 39 7 ((xg 0 (xh_ui h 39 10 (((10 * (xg 0 h.2.1 39 10)) + (nI (T (q + m)))) - 48)).2.1 39 7) + (Int32.ofInt 1))) [false] 26 hq rfl ⟨(show xe_c .ge ((xg 0 h.2.1 39 7) - (xg 0 h.2.1 39 8)) (Int32.ofInt 3) = false by rw [show (xg 0 h.2.1 39 7) = (nI (q + m)) from e7, show (xg 0 h.2.1 39 8) = (nI q) from e8, show ((nI (q + m)) - (nI q)) = nI m from (by rw [nI_sub (by omega), Nat.add_sub_cancel_left])]; exact c1), trivial⟩ (fun _ => ?_)
    rw [show (xg 0 (xh_ui h 39 10 (((10 * (xg 0 h.2.1 39 10)) + (nI (T (q + m)))) - 48)).2.1 39 7) = (nI (q + m)) from (gx_k (by decide)).trans (e7)]
    rw [show ((nI (q + m)) + (Int32.ofInt 1)) = nI (q + m + 1) from nI_1 _]
    have hq : a_rq a_tb (xh_ui (xh_ui h 39 10 (((10 * (xg 0 h.2.1 39 10)) + (nI (T (q + m)))) - 48)) 39 7 (nI (q + m + 1))) := a_rq_ui (a_rq_ui hq)
    refine ih _ hq (fx_ui (fx_ui (g0) rfl) rfl) (rtp_f (S := gS) (L := gL) hc (fx_ui (fx_ui (fx_0) rfl) rfl) rfl (fun _ => rfl)) (gx_s) ((gx_k (by decide)).trans ((gx_k (by decide)).trans (e8))) hw (fun y2 y3 => ?_)
    obtain ⟨y4, y5⟩ := (c_s lord).2 y3
    refine ((gx_k (by decide)).trans (gx_s)).trans ?_
    rw [vf_s han y5 y4, if_pos (by omega), hv y2 y4]
    have := of_decide_eq_true y5
    exact nI_val2 (by omega)
set_option maxRecDepth 100000 in
set_option maxHeartbeats 4000000 in
theorem go_s2 {f n q m : Nat} {T : Nat → Nat} {h0 h : xh_H} {w : Bool} {Q : Option Value → xh_H → Prop} (ih : ∀ h, a_rq a_tb h → fx gS gL h0 h → rtp h T n → xg 0 h.2.1 39 7 = nI (q + (m + 1)) → xg 0 h.2.1 39 8 = nI q → (w = true → cD T q (m + 1) = 0 → xg 0 h.2.2.1 39 15 = Int64.ofNat (wv T q (min (m + 1) 8))) → (w = false → cL T q (m + 1) = 0 → xg 0 h.2.1 39 10 = nI (vf T q (m + 1))) → xq f xi_X10_go xmi_X10_go 183 [(0, .ref 39), (2, .int (bl w)), (3, .int (bl (gd w T q (m + 1))))] [] h Q) (lord : (p_lt (T (q + m)) = true ∧ p_dg (T (q + m)) = false) ∨ (p_lt (T (q + m)) = false ∧ p_dg (T (q + m)) = true)) (hq : a_rq a_tb h) (g0 : fx gS gL h0 h) (hc : rtp h T n) (e7 : xg 0 h.2.1 39 7 = nI (q + m)) (e8 : xg 0 h.2.1 39 8 = nI q) (hmn : q + m < n) (han : ∀ k, q ≤ k → k < q + m → p_an (T k) = true) (hw : w = true → cD T q m = 0 → xg 0 h.2.2.1 39 15 = Int64.ofNat (wv T q (min m 8))) (hv : w = false → cL T q m = 0 → xg 0 h.2.1 39 10 = nI (vf T q m)) : xq f xi_X10_go xmi_X10_go 241 [(0, .ref 39), (2, .int (bl w)), (3, .int (bl (gd w T q (m + 1)))), (4, .int (nI (T (q + m))))] [] h Q := by
  have n6 := hc.2.1
  cases c1 : xe_c .ge (nI m) 8 with
  | true =>
    have z1 : m ≥ 8 := nq_get (a := m) (b := 8) (by omega) (by omega) c1
    refine xq_n 275 [0, 2, 3, 4] [(0, .ref 39), (2, .int (bl w)), (3, .int (bl (gd w T q (m + 1)))), (4, .int (nI (T (q + m))))] [] h [true] 9 hq rfl ⟨(show xe_c .ge ((xg 0 h.2.1 39 7) - (xg 0 h.2.1 39 8)) 8 = true by rw [show (xg 0 h.2.1 39 7) = (nI (q + m)) from e7, show (xg 0 h.2.1 39 8) = (nI q) from e8, show ((nI (q + m)) - (nI q)) = nI m from (by rw [nI_sub (by omega), Nat.add_sub_cancel_left])]; exact c1), trivial⟩ (fun hq => ?_)
    refine go_s3 ih lord hq (g0) (hc) (e7) (e8) hmn han (fun y2 y3 => ?_) hv
    obtain ⟨y4, y5⟩ := (c_s lord).1 y3
    rw [show min (m + 1) 8 = min m 8 by omega]
    exact hw y2 y4
  | false =>
    have z1 : m < 8 := nq_gef (a := m) (b := 8) (by omega) (by omega) c1
    refine xq_n 275 [0, 2, 3, 4] [(0, .ref 39), (2, .int (bl w)), (3, .int (bl (gd w T q (m + 1)))), (4, .int (nI (T (q + m))))] [] (xh_ul h 39 15 (((27 * (xg 0 h.2.2.1 39 15)) + ((nI (T (q + m))).toInt64)) - 96)) [false] 20 hq rfl ⟨(show xe_c .ge ((xg 0 h.2.1 39 7) - (xg 0 h.2.1 39 8)) 8 = false by rw [show (xg 0 h.2.1 39 7) = (nI (q + m)) from e7, show (xg 0 h.2.1 39 8) = (nI q) from e8, show ((nI (q + m)) - (nI q)) = nI m from (by rw [nI_sub (by omega), Nat.add_sub_cancel_left])]; exact c1), trivial⟩ (fun _ => ?_)
    have hq : a_rq a_tb (xh_ul h 39 15 (((27 * (xg 0 h.2.2.1 39 15)) + ((nI (T (q + m))).toInt64)) - 96)) := a_rq_ul hq
    refine go_s3 ih lord hq (fx_ul (g0) rfl) (rtp_f (S := gS) (L := gL) hc (fx_ul (fx_0) rfl) rfl (fun _ => rfl)) (e7) (e8) hmn han (fun y2 y3 => ?_) hv
    obtain ⟨y4, y5⟩ := (c_s lord).1 y3
    have y6 := of_decide_eq_true y5
    rw [show min (m + 1) 8 = m + 1 by omega]
    refine gl_s.trans ?_
    rw [hw y2 y4, show min m 8 = m by omega]
    exact wl_val (by omega) (hc.2.2 _ hmn).1
set_option maxRecDepth 100000 in
set_option maxHeartbeats 4000000 in
theorem go_s1 {f n q m : Nat} {T : Nat → Nat} {h0 h : xh_H} {w : Bool} {Q : Option Value → xh_H → Prop} (hT : ∀ k, k < n → T k < 256) (ih : ∀ h, a_rq a_tb h → fx gS gL h0 h → rtp h T n → xg 0 h.2.1 39 7 = nI (q + (m + 1)) → xg 0 h.2.1 39 8 = nI q → (w = true → cD T q (m + 1) = 0 → xg 0 h.2.2.1 39 15 = Int64.ofNat (wv T q (min (m + 1) 8))) → (w = false → cL T q (m + 1) = 0 → xg 0 h.2.1 39 10 = nI (vf T q (m + 1))) → xq f xi_X10_go xmi_X10_go 183 [(0, .ref 39), (2, .int (bl w)), (3, .int (bl (gd w T q (m + 1))))] [] h Q) (lord : (p_lt (T (q + m)) = true ∧ p_dg (T (q + m)) = false) ∨ (p_lt (T (q + m)) = false ∧ p_dg (T (q + m)) = true)) (hq : a_rq a_tb h) (g0 : fx gS gL h0 h) (hc : rtp h T n) (e7 : xg 0 h.2.1 39 7 = nI (q + m)) (e8 : xg 0 h.2.1 39 8 = nI q) (hmn : q + m < n) (han : ∀ k, q ≤ k → k < q + m → p_an (T k) = true) (hw : w = true → cD T q m = 0 → xg 0 h.2.2.1 39 15 = Int64.ofNat (wv T q (min m 8))) (hv : w = false → cL T q m = 0 → xg 0 h.2.1 39 10 = nI (vf T q m)) : xq f xi_X10_go xmi_X10_go 211 [(0, .ref 39), (2, .int (bl w)), (3, .int (bl (gd w T q m)))] [] h Q := by
  have n6 := hc.2.1
  cases b1 : (gd w T q m) with
  | true =>
    refine xq_n 228 [0, 2, 3, 4] [(0, .ref 39), (2, .int (bl w)), (3, .int (bl true)), (4, .int (xg 0 h.2.1 40 ((xg 0 h.2.1 39 7).toNatClampNeg)))] [.int (xg 0 h.2.1 40 ((xg 0 h.2.1 39 7).toNatClampNeg))] h [false] 11 hq rfl ⟨rfl, trivial⟩ (fun hq => ?_)
    rw [show (xg 0 h.2.1 40 ((xg 0 h.2.1 39 7).toNatClampNeg)) = (nI (T (q + m))) from (by rw [show (xg 0 h.2.1 39 7) = (nI (q + m)) from e7, show ((nI (q + m)).toNatClampNeg) = (q + m) from nI_clamp (by omega)]; exact (hc.2.2 _ (by omega)).2)]
    refine xq_run hq rfl rfl (rlt_q (c := T (q + m)) (hT _ (by omega)) hq) ?_
    rintro v2 h_v2 ⟨rfl, rfl⟩
    cases c3 : xe_c .ne (bl (p_lt (T (q + m)))) (bl w) with
    | true =>
      refine xq_n 241 [0, 2, 3, 4] [(0, .ref 39), (2, .int (bl w)), (3, .int (Int32.ofInt 0)), (4, .int (nI (T (q + m))))] [] h [true] 6 hq rfl ⟨c3, trivial⟩ (fun hq => ?_)
      have y1 := c3
      rw [blne] at y1
      have eg : gd w T q (m + 1) = false := by rw [gd_s lord, b1, y1]; rfl
      rw [show (Int32.ofInt 0 : Int32) = bl (gd w T q (m + 1)) from by rw [eg]; rfl]
      exact go_s2 ih lord hq g0 hc e7 e8 hmn han hw hv
    | false =>
      refine xq_n 241 [0, 2, 3, 4] [(0, .ref 39), (2, .int (bl w)), (3, .int (Int32.ofInt 1)), (4, .int (nI (T (q + m))))] [] h [false] 7 hq rfl ⟨c3, trivial⟩ (fun hq => ?_)
      have y1 := c3
      rw [blne] at y1
      have eg : gd w T q (m + 1) = true := by rw [gd_s lord, b1, y1]; rfl
      rw [show (Int32.ofInt 1 : Int32) = bl (gd w T q (m + 1)) from by rw [eg]; rfl]
      exact go_s2 ih lord hq g0 hc e7 e8 hmn han hw hv
  | false =>
    refine xq_n 241 [0, 2, 3, 4] [(0, .ref 39), (2, .int (bl w)), (3, .int (Int32.ofInt 0)), (4, .int (xg 0 h.2.1 40 ((xg 0 h.2.1 39 7).toNatClampNeg)))] [] h [true] 12 hq rfl ⟨rfl, trivial⟩ (fun hq => ?_)
    rw [show (xg 0 h.2.1 40 ((xg 0 h.2.1 39 7).toNatClampNeg)) = (nI (T (q + m))) from (by rw [show (xg 0 h.2.1 39 7) = (nI (q + m)) from e7, show ((nI (q + m)).toNatClampNeg) = (q + m) from nI_clamp (by omega)]; exact (hc.2.2 _ (by omega)).2)]
    have eg : gd w T q (m + 1) = false := by rw [gd_s lord, b1]; rfl
    rw [show (Int32.ofInt 0 : Int32) = bl (gd w T q (m + 1)) from by rw [eg]; rfl]
    exact go_s2 ih lord hq g0 hc e7 e8 hmn han hw hv
set_option maxRecDepth 100000 in
set_option maxHeartbeats 4000000 in
theorem go_lp {n p q : Nat} {T : Nat → Nat} {h0 : xh_H} {w : Bool} (hT : ∀ k, k < n → T k < 256) (n6 : n ≤ 640) (et : tks T n p = q) (hL : q < min n 600) (han0 : p_an (T q) = true) (hw0 : w = p_lt (T q)) : ∀ (f m : Nat) (h : xh_H), a_rq a_tb h → fx gS gL h0 h → rtp h T n → xg 0 h.2.1 39 7 = nI (q + m) → xg 0 h.2.1 39 8 = nI q → q + m ≤ n → (∀ k, q ≤ k → k < q + m → p_an (T k) = true) → (w = true → cD T q m = 0 → xg 0 h.2.2.1 39 15 = Int64.ofNat (wv T q (min m 8))) → (w = false → cL T q m = 0 → xg 0 h.2.1 39 10 = nI (vf T q m)) → xq f xi_X10_go xmi_X10_go 183 [(0, .ref 39), (2, .int (bl w)), (3, .int (bl (gd w T q m)))] [] h (gr_Q h0 T n p) := by
  intro f
  induction f with
  | zero => intros; exact xq_0
  | succ f ih =>
    intro m h hq g0 hc e7 e8 hmn han hw hv
    by_cases hlt : q + m < n
    · have hTm := hT (q + m) hlt
      have body : (p_lt (T (q + m)) = true ∧ p_dg (T (q + m)) = false) ∨ (p_lt (T (q + m)) = false ∧ p_dg (T (q + m)) = true) → xq f xi_X10_go xmi_X10_go 211 [(0, .ref 39), (2, .int (bl w)), (3, .int (bl (gd w T q m)))] [] h (gr_Q h0 T n p) := by
        intro lord
        have hcl : p_an (T (q + m)) = true := by
          rcases lord with ⟨l1, -⟩ | ⟨-, l1⟩
          · have := of_decide_eq_true l1
            exact decide_eq_true (by omega)
          · have := of_decide_eq_true l1
            exact decide_eq_true (by omega)
        refine go_s1 hT (fun h2 a1 a2 a3 a4 a5 a6 a7 => ih (m + 1) h2 a1 a2 a3 a4 a5 (by omega) (fun k y2 y3 => ?_) a6 a7) lord hq g0 hc e7 e8 hlt han hw hv
        by_cases ek : k = q + m
        · rw [ek]; exact hcl
        · exact han k y2 (by omega)
      refine xq_m 188 [0, 2, 3] [(0, .ref 39), (2, .int (bl w)), (3, .int (bl (gd w T q m)))] [.int (xg 0 h.2.1 39 7), .ref 39] h [] 5 hq rfl trivial (fun hq => ?_)
      rw [show (xg 0 h.2.1 39 7) = (nI (q + m)) from e7]
      refine xq_run hq rfl rfl (bt_q (hc) (p := (q + m)) (by omega) (by omega) hq) ?_
      rintro v1 h_v1 ⟨rfl, rfl⟩
      refine xq_run hq rfl rfl (rlt_q (c := T (q + m)) (hT _ (by omega)) hq) ?_
      rintro v2 h_v2 ⟨rfl, rfl⟩
      cases b3 : (p_lt (T (q + m))) with
      | true =>
        refine xq_n 211 [0, 2, 3] [(0, .ref 39), (2, .int (bl w)), (3, .int (bl (gd w T q m)))] [] h [true] 3 hq rfl ⟨rfl, trivial⟩ (fun hq => ?_)
        exact body (Or.inl ⟨b3, decide_eq_false (by have := of_decide_eq_true b3; omega)⟩)
      | false =>
        refine xq_n 202 [0, 2, 3] [(0, .ref 39), (2, .int (bl w)), (3, .int (bl (gd w T q m)))] [.int (xg 0 h.2.1 39 7), .ref 39] h [false] 6 hq rfl ⟨rfl, trivial⟩ (fun hq => ?_)
        rw [show (xg 0 h.2.1 39 7) = (nI (q + m)) from e7]
        refine xq_run hq rfl rfl (bt_q (hc) (p := (q + m)) (by omega) (by omega) hq) ?_
        rintro v4 h_v4 ⟨rfl, rfl⟩
        refine xq_run hq rfl rfl (rdg_q (c := T (q + m)) (hT _ (by omega)) hq) ?_
        rintro v5 h_v5 ⟨rfl, rfl⟩
        cases b6 : (p_dg (T (q + m))) with
        | true =>
          refine xq_n 211 [0, 2, 3] [(0, .ref 39), (2, .int (bl w)), (3, .int (bl (gd w T q m)))] [] h [false] 3 hq rfl ⟨rfl, trivial⟩ (fun hq => ?_)
          exact body (Or.inr ⟨b3, b6⟩)
        | false =>
          refine xq_n 318 [0, 2, 3] [(0, .ref 39), (2, .int (bl w)), (3, .int (bl (gd w T q m)))] [] h [true] 3 hq rfl ⟨rfl, trivial⟩ (fun hq => ?_)
          have nan : p_an (T (q + m)) = false := by
            have y1 := of_decide_eq_false b3
            have y2 := of_decide_eq_false b6
            exact decide_eq_false (by omega)
          have m1 : 1 ≤ m := by
            by_cases y : m = 0
            · rw [y, Nat.add_zero, han0] at nan; cases nan
            · omega
          exact go_end hq g0 n6 e7 e8 hmn et hL han hw0 hw hv m1 (rn_eq han hmn (Or.inr nan))
    · have e : q + m = n := by omega
      refine xq_m 188 [0, 2, 3] [(0, .ref 39), (2, .int (bl w)), (3, .int (bl (gd w T q m)))] [.int (xg 0 h.2.1 39 7), .ref 39] h [] 5 hq rfl trivial (fun hq => ?_)
      rw [e7]
      refine xq_run hq rfl rfl (bt_z hc (p := q + m) (by omega) (by omega) hq) ?_
      rintro v1 h1 ⟨rfl, rfl⟩
      refine xq_run hq rfl rfl (rlt_q (c := 0) (by decide) hq) ?_
      rintro v1 h1 ⟨rfl, rfl⟩
      refine xq_n 202 [0, 2, 3] [(0, .ref 39), (2, .int (bl w)), (3, .int (bl (gd w T q m)))] [.int (xg 0 h.2.1 39 7), .ref 39] h [false] 6 hq rfl ⟨rfl, trivial⟩ (fun hq => ?_)
      rw [e7]
      refine xq_run hq rfl rfl (bt_z hc (p := q + m) (by omega) (by omega) hq) ?_
      rintro v1 h1 ⟨rfl, rfl⟩
      refine xq_run hq rfl rfl (rdg_q (c := 0) (by decide) hq) ?_
      rintro v1 h1 ⟨rfl, rfl⟩
      refine xq_n 318 [0, 2, 3] [(0, .ref 39), (2, .int (bl w)), (3, .int (bl (gd w T q m)))] [] h [true] 3 hq rfl ⟨rfl, trivial⟩ (fun hq => ?_)
      have m1 : 1 ≤ m := by omega
      exact go_end hq g0 n6 e7 e8 hmn et hL han hw0 hw hv m1 (rn_eq han hmn (Or.inl e))
set_option maxRecDepth 100000 in
set_option maxHeartbeats 4000000 in
theorem go_52 {f n p q : Nat} {T : Nat → Nat} {h0 h : xh_H} (hq : a_rq a_tb h) (hc : rtp h T n) (g0 : fx gS gL h0 h) (e7 : xg 0 h.2.1 39 7 = nI q) (hqn : q ≤ n) (et : tks T n q = tks T n p) (hb : q < n → p_bk (T q) = false) : xq f xi_X10_go xmi_X10_go 52 [(0, .ref 39)] [] h (gr_Q h0 T n p) := by
  have n6 := hc.2.1
  have hT : ∀ k, k < n → T k < 256 := fun k hk' => (hc.2.2 k hk').1
  cases c1 : xe_c .le (nI n) 600 with
  | true =>
    have z1 : n ≤ 600 := nq_let (a := n) (b := 600) (by omega) (by omega) c1
    cases c2 : xe_c .lt (nI q) (nI n) with
    | true =>
      have z2 : q < n := nq_ltt (a := q) (b := n) (by omega) (by omega) c2
      refine xq_n 121 [0, 1] [(0, .ref 39), (1, .int (xg 0 (xh_ui h 39 8 (xg 0 h.2.1 39 7)).2.1 40 ((xg 0 (xh_ui h 39 8 (xg 0 h.2.1 39 7)).2.1 39 7).toNatClampNeg)))] [.int (xg 0 (xh_ui h 39 8 (xg 0 h.2.1 39 7)).2.1 40 ((xg 0 (xh_ui h 39 8 (xg 0 h.2.1 39 7)).2.1 39 7).toNatClampNeg))] (xh_ui h 39 8 (xg 0 h.2.1 39 7)) [true, true] 22 hq rfl ⟨(show xe_c .le (xg 0 (xh_ui h 39 8 (xg 0 h.2.1 39 7)).2.1 39 6) 600 = true by rw [show (xg 0 (xh_ui h 39 8 (xg 0 h.2.1 39 7)).2.1 39 6) = (nI n) from (gx_k (by decide)).trans (hc.1)]; exact c1), (show xe_c .lt (xg 0 (xh_ui h 39 8 (xg 0 h.2.1 39 7)).2.1 39 7) (xg 0 (xh_ui h 39 8 (xg 0 h.2.1 39 7)).2.1 39 6) = true by rw [show (xg 0 (xh_ui h 39 8 (xg 0 h.2.1 39 7)).2.1 39 7) = (nI q) from (gx_k (by decide)).trans (e7), show (xg 0 (xh_ui h 39 8 (xg 0 h.2.1 39 7)).2.1 39 6) = (nI n) from (gx_k (by decide)).trans (hc.1)]; exact c2), trivial⟩ (fun _ => ?_)
      rw [show (xg 0 (xh_ui h 39 8 (xg 0 h.2.1 39 7)).2.1 40 ((xg 0 (xh_ui h 39 8 (xg 0 h.2.1 39 7)).2.1 39 7).toNatClampNeg)) = (nI (T q)) from (by rw [show (xg 0 (xh_ui h 39 8 (xg 0 h.2.1 39 7)).2.1 39 7) = (nI q) from (gx_k (by decide)).trans (e7), show ((nI q).toNatClampNeg) = q from nI_clamp (by omega)]; exact (gx_o (by decide)).trans ((hc.2.2 _ (by omega)).2))]
      rw [show (xg 0 h.2.1 39 7) = (nI q) from e7]
      have hq : a_rq a_tb (xh_ui h 39 8 (nI q)) := a_rq_ui hq
      refine xq_run hq rfl rfl (rlt_q (c := T q) (hT _ (by omega)) hq) ?_
      rintro v3 h_v3 ⟨rfl, rfl⟩
      cases b4 : (p_lt (T q)) with
      | true =>
        refine xq_n 167 [0, 1] [(0, .ref 39), (1, .int (nI (T q)))] [.int (nI (T q))] (xh_ui h 39 8 (nI q)) [true] 4 hq rfl ⟨rfl, trivial⟩ (fun hq => ?_)
        refine xq_run hq rfl rfl (rlt_q (c := T q) (hT _ (by omega)) hq) ?_
        rintro v5 h_v5 ⟨rfl, rfl⟩
        refine xq_n 183 [0, 2, 3] [(0, .ref 39), (2, .int (bl (p_lt (T q)))), (3, .int (Int32.ofInt 1))] [] (xh_ui (xh_ul (xh_ui h 39 8 (nI q)) 39 15 0) 39 10 (Int32.ofInt 0)) [] 11 hq rfl trivial (fun _ => ?_)
        have hq : a_rq a_tb (xh_ui (xh_ul (xh_ui h 39 8 (nI q)) 39 15 0) 39 10 (Int32.ofInt 0)) := a_rq_ui (a_rq_ul hq)
        have et2 : tks T n p = q := et.symm.trans (tks_s (by omega) (hb (by omega)))
        have han0 : p_an (T q) = true := by
          have y := of_decide_eq_true b4
          exact decide_eq_true (by omega)
        rw [show (Int32.ofInt 1 : Int32) = bl (gd (p_lt (T q)) T q 0) from by unfold gd; cases (p_lt (T q)) <;> rfl]
        exact go_lp (w := (p_lt (T q))) hT n6 et2 (by omega) han0 rfl f 0 _ hq (fx_ui (fx_ul (fx_ui (g0) rfl) rfl) rfl) (rtp_f (S := gS) (L := gL) hc (fx_ui (fx_ul (fx_ui (fx_0) rfl) rfl) rfl) rfl (fun _ => rfl)) ((gx_k (by decide)).trans ((gx_k (by decide)).trans (e7))) ((gx_k (by decide)).trans (gx_s)) (by omega) (fun k y1 y2 => by omega) (fun _ _ => gl_s) (fun _ _ => gx_s)
      | false =>
        refine xq_n 128 [0, 1] [(0, .ref 39), (1, .int (nI (T q)))] [.int (nI (T q))] (xh_ui h 39 8 (nI q)) [false] 4 hq rfl ⟨rfl, trivial⟩ (fun hq => ?_)
        refine xq_run hq rfl rfl (rdg_q (c := T q) (hT _ (by omega)) hq) ?_
        rintro v6 h_v6 ⟨rfl, rfl⟩
        cases b7 : (p_dg (T q)) with
        | true =>
          refine xq_n 167 [0, 1] [(0, .ref 39), (1, .int (nI (T q)))] [.int (nI (T q))] (xh_ui h 39 8 (nI q)) [true] 4 hq rfl ⟨rfl, trivial⟩ (fun hq => ?_)
          refine xq_run hq rfl rfl (rlt_q (c := T q) (hT _ (by omega)) hq) ?_
          rintro v8 h_v8 ⟨rfl, rfl⟩
          refine xq_n 183 [0, 2, 3] [(0, .ref 39), (2, .int (bl (p_lt (T q)))), (3, .int (Int32.ofInt 1))] [] (xh_ui (xh_ul (xh_ui h 39 8 (nI q)) 39 15 0) 39 10 (Int32.ofInt 0)) [] 11 hq rfl trivial (fun _ => ?_)
          have hq : a_rq a_tb (xh_ui (xh_ul (xh_ui h 39 8 (nI q)) 39 15 0) 39 10 (Int32.ofInt 0)) := a_rq_ui (a_rq_ul hq)
          have et2 : tks T n p = q := et.symm.trans (tks_s (by omega) (hb (by omega)))
          have han0 : p_an (T q) = true := by
            have y := of_decide_eq_true b7
            exact decide_eq_true (by omega)
          rw [show (Int32.ofInt 1 : Int32) = bl (gd (p_lt (T q)) T q 0) from by unfold gd; cases (p_lt (T q)) <;> rfl]
          exact go_lp (w := (p_lt (T q))) hT n6 et2 (by omega) han0 rfl f 0 _ hq (fx_ui (fx_ul (fx_ui (g0) rfl) rfl) rfl) (rtp_f (S := gS) (L := gL) hc (fx_ui (fx_ul (fx_ui (fx_0) rfl) rfl) rfl) rfl (fun _ => rfl)) ((gx_k (by decide)).trans ((gx_k (by decide)).trans (e7))) ((gx_k (by decide)).trans (gx_s)) (by omega) (fun k y1 y2 => by omega) (fun _ _ => gl_s) (fun _ _ => gx_s)
        | false =>
          refine xq_n 136 [0, 1] [(0, .ref 39), (1, .int (nI (T q)))] [.int (nI (T q)), .ref 39] (xh_ui h 39 8 (nI q)) [false] 5 hq rfl ⟨rfl, trivial⟩ (fun hq => ?_)
          refine xq_run hq rfl rfl (rsn_q (c := T q) (hT _ (by omega)) hq) ?_
          rintro v9 h_v9 ⟨rfl, rfl⟩
          cases b10 : (p_sn (T q)) with
          | true =>
            refine xq_n 165 [] [] [] (xh_ui (xh_ui (xh_ui (xh_ui h 39 8 (nI q)) 39 9 (Int32.ofInt 4)) 39 11 (nI (T q))) 39 7 ((xg 0 (xh_ui (xh_ui (xh_ui h 39 8 (nI q)) 39 9 (Int32.ofInt 4)) 39 11 (nI (T q))).2.1 39 7) + (Int32.ofInt 1))) [false] 15 hq rfl ⟨rfl, trivial⟩ (fun _ => ?_)
            rw [show (xg 0 (xh_ui (xh_ui (xh_ui h 39 8 (nI q)) 39 9 (Int32.ofInt 4)) 39 11 (nI (T q))).2.1 39 7) = (nI q) from (gx_k (by decide)).trans ((gx_k (by decide)).trans ((gx_k (by decide)).trans (e7)))]
            rw [show ((nI q) + (Int32.ofInt 1)) = nI (q + 1) from nI_1 _]
            have hq : a_rq a_tb (xh_ui (xh_ui (xh_ui (xh_ui h 39 8 (nI q)) 39 9 (Int32.ofInt 4)) 39 11 (nI (T q))) 39 7 (nI (q + 1))) := a_rq_ui (a_rq_ui (a_rq_ui hq))
            have et2 : tks T n p = q := et.symm.trans (tks_s (by omega) (hb (by omega)))
            have et := et2
            have hna : ¬ p_an (T q) = true := by
              intro y
              have y := of_decide_eq_true y
              have y1 := of_decide_eq_false b4
              have y2 := of_decide_eq_false b7
              omega
            have ee : tke T n p = q + 1 := by unfold tke eq_; rw [et, if_neg hna]
            have ekk : tkk T n p = T q := by unfold tkk kq; rw [et, if_neg (by omega), if_neg hna, if_pos b10]
            have y4 := sn_ge b10
            refine xq_ret rfl rfl rfl ⟨rfl, fx_ui (fx_ui (fx_ui (fx_ui (g0) rfl) rfl) rfl) rfl, ?_, ?_, ?_, ?_, ?_, ?_⟩
            · rw [et]; exact (gx_k (by decide)).trans ((gx_k (by decide)).trans ((gx_k (by decide)).trans (gx_s)))
            · rw [show rkk T n p = 4 by have := rkk_k (T := T) (n := n) (p := p); omega]; exact (gx_k (by decide)).trans ((gx_k (by decide)).trans (gx_s))
            · exact fun z => by omega
            · exact fun z => by omega
            · exact fun _ => by rw [ekk]; exact (gx_k (by decide)).trans (gx_s)
            · exact fun _ => by rw [ee]; exact gx_s
          | false =>
            refine xq_n 165 [] [] [] (xh_ui (xh_ui (xh_ui (xh_ui h 39 8 (nI q)) 39 9 (Int32.ofInt 1)) 39 11 (nI (T q))) 39 7 ((xg 0 (xh_ui (xh_ui (xh_ui h 39 8 (nI q)) 39 9 (Int32.ofInt 1)) 39 11 (nI (T q))).2.1 39 7) + (Int32.ofInt 1))) [true] 14 hq rfl ⟨rfl, trivial⟩ (fun _ => ?_)
            rw [show (xg 0 (xh_ui (xh_ui (xh_ui h 39 8 (nI q)) 39 9 (Int32.ofInt 1)) 39 11 (nI (T q))).2.1 39 7) = (nI q) from (gx_k (by decide)).trans ((gx_k (by decide)).trans ((gx_k (by decide)).trans (e7)))]
            rw [show ((nI q) + (Int32.ofInt 1)) = nI (q + 1) from nI_1 _]
            have hq : a_rq a_tb (xh_ui (xh_ui (xh_ui (xh_ui h 39 8 (nI q)) 39 9 (Int32.ofInt 1)) 39 11 (nI (T q))) 39 7 (nI (q + 1))) := a_rq_ui (a_rq_ui (a_rq_ui hq))
            have et2 : tks T n p = q := et.symm.trans (tks_s (by omega) (hb (by omega)))
            have et := et2
            have hna : ¬ p_an (T q) = true := by
              intro y
              have y := of_decide_eq_true y
              have y1 := of_decide_eq_false b4
              have y2 := of_decide_eq_false b7
              omega
            have ee : tke T n p = q + 1 := by unfold tke eq_; rw [et, if_neg hna]
            have ekk : tkk T n p = 1 := by unfold tkk kq; rw [et, if_neg (by omega), if_neg hna, if_neg (by rw [b10]; decide)]
            refine xq_ret rfl rfl rfl ⟨rfl, fx_ui (fx_ui (fx_ui (fx_ui (g0) rfl) rfl) rfl) rfl, ?_, ?_, ?_, ?_, ?_, ?_⟩
            · rw [et]; exact (gx_k (by decide)).trans ((gx_k (by decide)).trans ((gx_k (by decide)).trans (gx_s)))
            · rw [show rkk T n p = 1 by have := rkk_k (T := T) (n := n) (p := p); omega]; exact (gx_k (by decide)).trans ((gx_k (by decide)).trans (gx_s))
            · exact fun z => by omega
            · exact fun z => by omega
            · exact fun z => by omega
            · exact fun _ => by rw [ee]; exact gx_s
    | false =>
      have z2 : q ≥ n := nq_ltf (a := q) (b := n) (by omega) (by omega) c2
      refine xq_n 109 [] [] [] (xh_ui (xh_ui h 39 8 (xg 0 h.2.1 39 7)) 39 9 (Int32.ofInt 0)) [true, false] 18 hq rfl ⟨(show xe_c .le (xg 0 (xh_ui h 39 8 (xg 0 h.2.1 39 7)).2.1 39 6) 600 = true by rw [show (xg 0 (xh_ui h 39 8 (xg 0 h.2.1 39 7)).2.1 39 6) = (nI n) from (gx_k (by decide)).trans (hc.1)]; exact c1), (show xe_c .lt (xg 0 (xh_ui h 39 8 (xg 0 h.2.1 39 7)).2.1 39 7) (xg 0 (xh_ui h 39 8 (xg 0 h.2.1 39 7)).2.1 39 6) = false by rw [show (xg 0 (xh_ui h 39 8 (xg 0 h.2.1 39 7)).2.1 39 7) = (nI q) from (gx_k (by decide)).trans (e7), show (xg 0 (xh_ui h 39 8 (xg 0 h.2.1 39 7)).2.1 39 6) = (nI n) from (gx_k (by decide)).trans (hc.1)]; exact c2), trivial⟩ (fun _ => ?_)
      rw [show (xg 0 h.2.1 39 7) = (nI q) from e7]
      have hq : a_rq a_tb (xh_ui (xh_ui h 39 8 (nI q)) 39 9 (Int32.ofInt 0)) := a_rq_ui (a_rq_ui hq)
      have et2 : tks T n p = min n 600 := et.symm.trans (tks_n (by omega))
      have ekk : tkk T n p = 0 := by unfold tkk kq; rw [et2, if_pos (Nat.le_refl _)]
      refine xq_ret rfl rfl rfl ⟨rfl, fx_ui (fx_ui (g0) rfl) rfl, ?_, ?_, ?_, ?_, ?_, ?_⟩
      · rw [et2, show min n 600 = q by omega]; exact (gx_k (by decide)).trans (gx_s)
      · rw [show rkk T n p = 0 by have := rkk_k (T := T) (n := n) (p := p); omega]; exact gx_s
      · exact fun z => by omega
      · exact fun z => by omega
      · exact fun z => by omega
      · exact fun z => absurd ekk z
  | false =>
    have z1 : n > 600 := nq_lef (a := n) (b := 600) (by omega) (by omega) c1
    cases c11 : xe_c .lt (nI q) 600 with
    | true =>
      have z11 : q < 600 := nq_ltt (a := q) (b := 600) (by omega) (by omega) c11
      cases c12 : xe_c .lt (nI q) (nI n) with
      | true =>
        have z12 : q < n := nq_ltt (a := q) (b := n) (by omega) (by omega) c12
        refine xq_n 121 [0, 1] [(0, .ref 39), (1, .int (xg 0 (xh_ui h 39 8 (xg 0 h.2.1 39 7)).2.1 40 ((xg 0 (xh_ui h 39 8 (xg 0 h.2.1 39 7)).2.1 39 7).toNatClampNeg)))] [.int (xg 0 (xh_ui h 39 8 (xg 0 h.2.1 39 7)).2.1 40 ((xg 0 (xh_ui h 39 8 (xg 0 h.2.1 39 7)).2.1 39 7).toNatClampNeg))] (xh_ui h 39 8 (xg 0 h.2.1 39 7)) [false, true, true] 26 hq rfl ⟨(show xe_c .le (xg 0 (xh_ui h 39 8 (xg 0 h.2.1 39 7)).2.1 39 6) 600 = false by rw [show (xg 0 (xh_ui h 39 8 (xg 0 h.2.1 39 7)).2.1 39 6) = (nI n) from (gx_k (by decide)).trans (hc.1)]; exact c1), (show xe_c .lt (xg 0 (xh_ui h 39 8 (xg 0 h.2.1 39 7)).2.1 39 8) 600 = true by rw [show (xg 0 (xh_ui h 39 8 (xg 0 h.2.1 39 7)).2.1 39 8) = (xg 0 h.2.1 39 7) from gx_s, show (xg 0 h.2.1 39 7) = (nI q) from e7]; exact c11), (show xe_c .lt (xg 0 (xh_ui h 39 8 (xg 0 h.2.1 39 7)).2.1 39 7) (xg 0 (xh_ui h 39 8 (xg 0 h.2.1 39 7)).2.1 39 6) = true by rw [show (xg 0 (xh_ui h 39 8 (xg 0 h.2.1 39 7)).2.1 39 7) = (nI q) from (gx_k (by decide)).trans (e7), show (xg 0 (xh_ui h 39 8 (xg 0 h.2.1 39 7)).2.1 39 6) = (nI n) from (gx_k (by decide)).trans (hc.1)]; exact c12), trivial⟩ (fun _ => ?_)
        rw [show (xg 0 (xh_ui h 39 8 (xg 0 h.2.1 39 7)).2.1 40 ((xg 0 (xh_ui h 39 8 (xg 0 h.2.1 39 7)).2.1 39 7).toNatClampNeg)) = (nI (T q)) from (by rw [show (xg 0 (xh_ui h 39 8 (xg 0 h.2.1 39 7)).2.1 39 7) = (nI q) from (gx_k (by decide)).trans (e7), show ((nI q).toNatClampNeg) = q from nI_clamp (by omega)]; exact (gx_o (by decide)).trans ((hc.2.2 _ (by omega)).2))]
        rw [show (xg 0 h.2.1 39 7) = (nI q) from e7]
        have hq : a_rq a_tb (xh_ui h 39 8 (nI q)) := a_rq_ui hq
        refine xq_run hq rfl rfl (rlt_q (c := T q) (hT _ (by omega)) hq) ?_
        rintro v13 h_v13 ⟨rfl, rfl⟩
        cases b14 : (p_lt (T q)) with
        | true =>
          refine xq_n 167 [0, 1] [(0, .ref 39), (1, .int (nI (T q)))] [.int (nI (T q))] (xh_ui h 39 8 (nI q)) [true] 4 hq rfl ⟨rfl, trivial⟩ (fun hq => ?_)
          refine xq_run hq rfl rfl (rlt_q (c := T q) (hT _ (by omega)) hq) ?_
          rintro v15 h_v15 ⟨rfl, rfl⟩
          refine xq_n 183 [0, 2, 3] [(0, .ref 39), (2, .int (bl (p_lt (T q)))), (3, .int (Int32.ofInt 1))] [] (xh_ui (xh_ul (xh_ui h 39 8 (nI q)) 39 15 0) 39 10 (Int32.ofInt 0)) [] 11 hq rfl trivial (fun _ => ?_)
          have hq : a_rq a_tb (xh_ui (xh_ul (xh_ui h 39 8 (nI q)) 39 15 0) 39 10 (Int32.ofInt 0)) := a_rq_ui (a_rq_ul hq)
          have et2 : tks T n p = q := et.symm.trans (tks_s (by omega) (hb (by omega)))
          have han0 : p_an (T q) = true := by
            have y := of_decide_eq_true b14
            exact decide_eq_true (by omega)
          rw [show (Int32.ofInt 1 : Int32) = bl (gd (p_lt (T q)) T q 0) from by unfold gd; cases (p_lt (T q)) <;> rfl]
          exact go_lp (w := (p_lt (T q))) hT n6 et2 (by omega) han0 rfl f 0 _ hq (fx_ui (fx_ul (fx_ui (g0) rfl) rfl) rfl) (rtp_f (S := gS) (L := gL) hc (fx_ui (fx_ul (fx_ui (fx_0) rfl) rfl) rfl) rfl (fun _ => rfl)) ((gx_k (by decide)).trans ((gx_k (by decide)).trans (e7))) ((gx_k (by decide)).trans (gx_s)) (by omega) (fun k y1 y2 => by omega) (fun _ _ => gl_s) (fun _ _ => gx_s)
        | false =>
          refine xq_n 128 [0, 1] [(0, .ref 39), (1, .int (nI (T q)))] [.int (nI (T q))] (xh_ui h 39 8 (nI q)) [false] 4 hq rfl ⟨rfl, trivial⟩ (fun hq => ?_)
          refine xq_run hq rfl rfl (rdg_q (c := T q) (hT _ (by omega)) hq) ?_
          rintro v16 h_v16 ⟨rfl, rfl⟩
          cases b17 : (p_dg (T q)) with
          | true =>
            refine xq_n 167 [0, 1] [(0, .ref 39), (1, .int (nI (T q)))] [.int (nI (T q))] (xh_ui h 39 8 (nI q)) [true] 4 hq rfl ⟨rfl, trivial⟩ (fun hq => ?_)
            refine xq_run hq rfl rfl (rlt_q (c := T q) (hT _ (by omega)) hq) ?_
            rintro v18 h_v18 ⟨rfl, rfl⟩
            refine xq_n 183 [0, 2, 3] [(0, .ref 39), (2, .int (bl (p_lt (T q)))), (3, .int (Int32.ofInt 1))] [] (xh_ui (xh_ul (xh_ui h 39 8 (nI q)) 39 15 0) 39 10 (Int32.ofInt 0)) [] 11 hq rfl trivial (fun _ => ?_)
            have hq : a_rq a_tb (xh_ui (xh_ul (xh_ui h 39 8 (nI q)) 39 15 0) 39 10 (Int32.ofInt 0)) := a_rq_ui (a_rq_ul hq)
            have et2 : tks T n p = q := et.symm.trans (tks_s (by omega) (hb (by omega)))
            have han0 : p_an (T q) = true := by
              have y := of_decide_eq_true b17
              exact decide_eq_true (by omega)
            rw [show (Int32.ofInt 1 : Int32) = bl (gd (p_lt (T q)) T q 0) from by unfold gd; cases (p_lt (T q)) <;> rfl]
            exact go_lp (w := (p_lt (T q))) hT n6 et2 (by omega) han0 rfl f 0 _ hq (fx_ui (fx_ul (fx_ui (g0) rfl) rfl) rfl) (rtp_f (S := gS) (L := gL) hc (fx_ui (fx_ul (fx_ui (fx_0) rfl) rfl) rfl) rfl (fun _ => rfl)) ((gx_k (by decide)).trans ((gx_k (by decide)).trans (e7))) ((gx_k (by decide)).trans (gx_s)) (by omega) (fun k y1 y2 => by omega) (fun _ _ => gl_s) (fun _ _ => gx_s)
          | false =>
            refine xq_n 136 [0, 1] [(0, .ref 39), (1, .int (nI (T q)))] [.int (nI (T q)), .ref 39] (xh_ui h 39 8 (nI q)) [false] 5 hq rfl ⟨rfl, trivial⟩ (fun hq => ?_)
            refine xq_run hq rfl rfl (rsn_q (c := T q) (hT _ (by omega)) hq) ?_
            rintro v19 h_v19 ⟨rfl, rfl⟩
            cases b20 : (p_sn (T q)) with
            | true =>
              refine xq_n 165 [] [] [] (xh_ui (xh_ui (xh_ui (xh_ui h 39 8 (nI q)) 39 9 (Int32.ofInt 4)) 39 11 (nI (T q))) 39 7 ((xg 0 (xh_ui (xh_ui (xh_ui h 39 8 (nI q)) 39 9 (Int32.ofInt 4)) 39 11 (nI (T q))).2.1 39 7) + (Int32.ofInt 1))) [false] 15 hq rfl ⟨rfl, trivial⟩ (fun _ => ?_)
              rw [show (xg 0 (xh_ui (xh_ui (xh_ui h 39 8 (nI q)) 39 9 (Int32.ofInt 4)) 39 11 (nI (T q))).2.1 39 7) = (nI q) from (gx_k (by decide)).trans ((gx_k (by decide)).trans ((gx_k (by decide)).trans (e7)))]
              rw [show ((nI q) + (Int32.ofInt 1)) = nI (q + 1) from nI_1 _]
              have hq : a_rq a_tb (xh_ui (xh_ui (xh_ui (xh_ui h 39 8 (nI q)) 39 9 (Int32.ofInt 4)) 39 11 (nI (T q))) 39 7 (nI (q + 1))) := a_rq_ui (a_rq_ui (a_rq_ui hq))
              have et2 : tks T n p = q := et.symm.trans (tks_s (by omega) (hb (by omega)))
              have et := et2
              have hna : ¬ p_an (T q) = true := by
                intro y
                have y := of_decide_eq_true y
                have y1 := of_decide_eq_false b14
                have y2 := of_decide_eq_false b17
                omega
              have ee : tke T n p = q + 1 := by unfold tke eq_; rw [et, if_neg hna]
              have ekk : tkk T n p = T q := by unfold tkk kq; rw [et, if_neg (by omega), if_neg hna, if_pos b20]
              have y4 := sn_ge b20
              refine xq_ret rfl rfl rfl ⟨rfl, fx_ui (fx_ui (fx_ui (fx_ui (g0) rfl) rfl) rfl) rfl, ?_, ?_, ?_, ?_, ?_, ?_⟩
              · rw [et]; exact (gx_k (by decide)).trans ((gx_k (by decide)).trans ((gx_k (by decide)).trans (gx_s)))
              · rw [show rkk T n p = 4 by have := rkk_k (T := T) (n := n) (p := p); omega]; exact (gx_k (by decide)).trans ((gx_k (by decide)).trans (gx_s))
              · exact fun z => by omega
              · exact fun z => by omega
              · exact fun _ => by rw [ekk]; exact (gx_k (by decide)).trans (gx_s)
              · exact fun _ => by rw [ee]; exact gx_s
            | false =>
              refine xq_n 165 [] [] [] (xh_ui (xh_ui (xh_ui (xh_ui h 39 8 (nI q)) 39 9 (Int32.ofInt 1)) 39 11 (nI (T q))) 39 7 ((xg 0 (xh_ui (xh_ui (xh_ui h 39 8 (nI q)) 39 9 (Int32.ofInt 1)) 39 11 (nI (T q))).2.1 39 7) + (Int32.ofInt 1))) [true] 14 hq rfl ⟨rfl, trivial⟩ (fun _ => ?_)
              rw [show (xg 0 (xh_ui (xh_ui (xh_ui h 39 8 (nI q)) 39 9 (Int32.ofInt 1)) 39 11 (nI (T q))).2.1 39 7) = (nI q) from (gx_k (by decide)).trans ((gx_k (by decide)).trans ((gx_k (by decide)).trans (e7)))]
              rw [show ((nI q) + (Int32.ofInt 1)) = nI (q + 1) from nI_1 _]
              have hq : a_rq a_tb (xh_ui (xh_ui (xh_ui (xh_ui h 39 8 (nI q)) 39 9 (Int32.ofInt 1)) 39 11 (nI (T q))) 39 7 (nI (q + 1))) := a_rq_ui (a_rq_ui (a_rq_ui hq))
              have et2 : tks T n p = q := et.symm.trans (tks_s (by omega) (hb (by omega)))
              have et := et2
              have hna : ¬ p_an (T q) = true := by
                intro y
                have y := of_decide_eq_true y
                have y1 := of_decide_eq_false b14
                have y2 := of_decide_eq_false b17
                omega
              have ee : tke T n p = q + 1 := by unfold tke eq_; rw [et, if_neg hna]
              have ekk : tkk T n p = 1 := by unfold tkk kq; rw [et, if_neg (by omega), if_neg hna, if_neg (by rw [b20]; decide)]
              refine xq_ret rfl rfl rfl ⟨rfl, fx_ui (fx_ui (fx_ui (fx_ui (g0) rfl) rfl) rfl) rfl, ?_, ?_, ?_, ?_, ?_, ?_⟩
              · rw [et]; exact (gx_k (by decide)).trans ((gx_k (by decide)).trans ((gx_k (by decide)).trans (gx_s)))
              · rw [show rkk T n p = 1 by have := rkk_k (T := T) (n := n) (p := p); omega]; exact (gx_k (by decide)).trans ((gx_k (by decide)).trans (gx_s))
              · exact fun z => by omega
              · exact fun z => by omega
              · exact fun z => by omega
              · exact fun _ => by rw [ee]; exact gx_s
      | false =>
        have z12 : q ≥ n := nq_ltf (a := q) (b := n) (by omega) (by omega) c12
        refine xq_n 109 [] [] [] (xh_ui (xh_ui h 39 8 (xg 0 h.2.1 39 7)) 39 9 (Int32.ofInt 0)) [false, true, false] 22 hq rfl ⟨(show xe_c .le (xg 0 (xh_ui h 39 8 (xg 0 h.2.1 39 7)).2.1 39 6) 600 = false by rw [show (xg 0 (xh_ui h 39 8 (xg 0 h.2.1 39 7)).2.1 39 6) = (nI n) from (gx_k (by decide)).trans (hc.1)]; exact c1), (show xe_c .lt (xg 0 (xh_ui h 39 8 (xg 0 h.2.1 39 7)).2.1 39 8) 600 = true by rw [show (xg 0 (xh_ui h 39 8 (xg 0 h.2.1 39 7)).2.1 39 8) = (xg 0 h.2.1 39 7) from gx_s, show (xg 0 h.2.1 39 7) = (nI q) from e7]; exact c11), (show xe_c .lt (xg 0 (xh_ui h 39 8 (xg 0 h.2.1 39 7)).2.1 39 7) (xg 0 (xh_ui h 39 8 (xg 0 h.2.1 39 7)).2.1 39 6) = false by rw [show (xg 0 (xh_ui h 39 8 (xg 0 h.2.1 39 7)).2.1 39 7) = (nI q) from (gx_k (by decide)).trans (e7), show (xg 0 (xh_ui h 39 8 (xg 0 h.2.1 39 7)).2.1 39 6) = (nI n) from (gx_k (by decide)).trans (hc.1)]; exact c12), trivial⟩ (fun _ => ?_)
        rw [show (xg 0 h.2.1 39 7) = (nI q) from e7]
        have hq : a_rq a_tb (xh_ui (xh_ui h 39 8 (nI q)) 39 9 (Int32.ofInt 0)) := a_rq_ui (a_rq_ui hq)
        have et2 : tks T n p = min n 600 := et.symm.trans (tks_n (by omega))
        have ekk : tkk T n p = 0 := by unfold tkk kq; rw [et2, if_pos (Nat.le_refl _)]
        refine xq_ret rfl rfl rfl ⟨rfl, fx_ui (fx_ui (g0) rfl) rfl, ?_, ?_, ?_, ?_, ?_, ?_⟩
        · rw [et2, show min n 600 = q by omega]; exact (gx_k (by decide)).trans (gx_s)
        · rw [show rkk T n p = 0 by have := rkk_k (T := T) (n := n) (p := p); omega]; exact gx_s
        · exact fun z => by omega
        · exact fun z => by omega
        · exact fun z => by omega
        · exact fun z => absurd ekk z
    | false =>
      have z11 : q ≥ 600 := nq_ltf (a := q) (b := 600) (by omega) (by omega) c11
      refine xq_n 92 [] [] [] (xh_ui (xh_ui (xh_ui h 39 8 (xg 0 h.2.1 39 7)) 39 8 600) 39 9 (Int32.ofInt 1)) [false, false] 20 hq rfl ⟨(show xe_c .le (xg 0 (xh_ui h 39 8 (xg 0 h.2.1 39 7)).2.1 39 6) 600 = false by rw [show (xg 0 (xh_ui h 39 8 (xg 0 h.2.1 39 7)).2.1 39 6) = (nI n) from (gx_k (by decide)).trans (hc.1)]; exact c1), (show xe_c .lt (xg 0 (xh_ui h 39 8 (xg 0 h.2.1 39 7)).2.1 39 8) 600 = false by rw [show (xg 0 (xh_ui h 39 8 (xg 0 h.2.1 39 7)).2.1 39 8) = (xg 0 h.2.1 39 7) from gx_s, show (xg 0 h.2.1 39 7) = (nI q) from e7]; exact c11), trivial⟩ (fun _ => ?_)
      rw [show (xg 0 h.2.1 39 7) = (nI q) from e7]
      have hq : a_rq a_tb (xh_ui (xh_ui (xh_ui h 39 8 (nI q)) 39 8 600) 39 9 (Int32.ofInt 1)) := a_rq_ui (a_rq_ui (a_rq_ui hq))
      have et2 : tks T n p = min n 600 := et.symm.trans (tks_n (by omega))
      have ekk : tkk T n p = 0 := by unfold tkk kq; rw [et2, if_pos (Nat.le_refl _)]
      refine xq_ret rfl rfl rfl ⟨rfl, fx_ui (fx_ui (fx_ui (g0) rfl) rfl) rfl, ?_, ?_, ?_, ?_, ?_, ?_⟩
      · rw [et2, show min n 600 = 600 by omega]; exact (gx_k (by decide)).trans (gx_s)
      · rw [show rkk T n p = 1 by have := rkk_k (T := T) (n := n) (p := p); omega]; exact gx_s
      · exact fun z => by omega
      · exact fun z => by omega
      · exact fun z => by omega
      · exact fun z => absurd ekk z
set_option maxRecDepth 100000 in
set_option maxHeartbeats 4000000 in
theorem go_l0 {n p : Nat} {T : Nat → Nat} {h0 : xh_H} : ∀ (f q : Nat) (h : xh_H), a_rq a_tb h → rtp h T n → fx gS gL h0 h → xg 0 h.2.1 39 7 = nI q → q ≤ n → tks T n q = tks T n p → xq f xi_X10_go xmi_X10_go 0 [(0, .ref 39)] [] h (gr_Q h0 T n p) := by
  intro f
  induction f with
  | zero => intros; exact xq_0
  | succ f ih =>
    intro q h hq hc g0 e7 hqn et
    have n6 := hc.2.1
    have hT : ∀ k, k < n → T k < 256 := fun k hk' => (hc.2.2 k hk').1
    have hTq : T q < 256 ∨ n ≤ q := by
      by_cases y : q < n
      · exact Or.inl (hT q y)
      · exact Or.inr (by omega)
    cases c1 : xe_c .ge (nI q) (nI n) with
    | true =>
      have z1 : q ≥ n := nq_get (a := q) (b := n) (by omega) (by omega) c1
      refine xq_m 52 [0] [(0, .ref 39)] [] h [true] 7 hq rfl ⟨(show xe_c .ge (xg 0 h.2.1 39 7) (xg 0 h.2.1 39 6) = true by rw [show (xg 0 h.2.1 39 7) = (nI q) from e7, show (xg 0 h.2.1 39 6) = (nI n) from hc.1]; exact c1), trivial⟩ (fun hq => ?_)
      exact go_52 hq hc g0 e7 hqn et (fun y => by omega)
    | false =>
      have z1 : q < n := nq_gef (a := q) (b := n) (by omega) (by omega) c1
      cases c2 : xe_c .eq (nI (T q)) 32 with
      | true =>
        have z2 : (T q) = 32 := nq_eqt (a := (T q)) (b := 32) (by omega) (by omega) c2
        refine xq_m 0 [0] [(0, .ref 39)] [] (xh_ui h 39 7 ((xg 0 h.2.1 39 7) + (Int32.ofInt 1))) [false, true] 21 hq rfl ⟨(show xe_c .ge (xg 0 h.2.1 39 7) (xg 0 h.2.1 39 6) = false by rw [show (xg 0 h.2.1 39 7) = (nI q) from e7, show (xg 0 h.2.1 39 6) = (nI n) from hc.1]; exact c1), (show xe_c .eq (xg 0 h.2.1 40 ((xg 0 h.2.1 39 7).toNatClampNeg)) 32 = true by rw [show (xg 0 h.2.1 40 ((xg 0 h.2.1 39 7).toNatClampNeg)) = (nI (T q)) from (by rw [show (xg 0 h.2.1 39 7) = (nI q) from e7, show ((nI q).toNatClampNeg) = q from nI_clamp (by omega)]; exact (hc.2.2 _ (by omega)).2)]; exact c2), trivial⟩ (fun _ => ?_)
        rw [show (xg 0 h.2.1 39 7) = (nI q) from e7]
        rw [show ((nI q) + (Int32.ofInt 1)) = nI (q + 1) from nI_1 _]
        have hq : a_rq a_tb (xh_ui h 39 7 (nI (q + 1))) := a_rq_ui hq
        exact ih (q + 1) _ hq (rtp_f (S := gS) (L := gL) hc (fx_ui (fx_0) rfl) rfl (fun _ => rfl)) (fx_ui (g0) rfl) (gx_s) (by omega) ((tks_b (by omega) (decide_eq_true (by omega))).symm.trans et)
      | false =>
        have z2 : (T q) ≠ 32 := nq_eqf (a := (T q)) (b := 32) (by omega) (by omega) c2
        cases c3 : xe_c .ne (nI (T q)) 10 with
        | true =>
          have z3 : (T q) ≠ 10 := nq_net (a := (T q)) (b := 10) (by omega) (by omega) c3
          refine xq_m 52 [0] [(0, .ref 39)] [] h [false, false, true] 21 hq rfl ⟨(show xe_c .ge (xg 0 h.2.1 39 7) (xg 0 h.2.1 39 6) = false by rw [show (xg 0 h.2.1 39 7) = (nI q) from e7, show (xg 0 h.2.1 39 6) = (nI n) from hc.1]; exact c1), (show xe_c .eq (xg 0 h.2.1 40 ((xg 0 h.2.1 39 7).toNatClampNeg)) 32 = false by rw [show (xg 0 h.2.1 40 ((xg 0 h.2.1 39 7).toNatClampNeg)) = (nI (T q)) from (by rw [show (xg 0 h.2.1 39 7) = (nI q) from e7, show ((nI q).toNatClampNeg) = q from nI_clamp (by omega)]; exact (hc.2.2 _ (by omega)).2)]; exact c2), (show xe_c .ne (xg 0 h.2.1 40 ((xg 0 h.2.1 39 7).toNatClampNeg)) 10 = true by rw [show (xg 0 h.2.1 40 ((xg 0 h.2.1 39 7).toNatClampNeg)) = (nI (T q)) from (by rw [show (xg 0 h.2.1 39 7) = (nI q) from e7, show ((nI q).toNatClampNeg) = q from nI_clamp (by omega)]; exact (hc.2.2 _ (by omega)).2)]; exact c3), trivial⟩ (fun hq => ?_)
          exact go_52 hq hc g0 e7 hqn et (fun _ => decide_eq_false (by omega))
        | false =>
          have z3 : (T q) = 10 := nq_nef (a := (T q)) (b := 10) (by omega) (by omega) c3
          refine xq_m 0 [0] [(0, .ref 39)] [] (xh_ui h 39 7 ((xg 0 h.2.1 39 7) + (Int32.ofInt 1))) [false, false, false] 28 hq rfl ⟨(show xe_c .ge (xg 0 h.2.1 39 7) (xg 0 h.2.1 39 6) = false by rw [show (xg 0 h.2.1 39 7) = (nI q) from e7, show (xg 0 h.2.1 39 6) = (nI n) from hc.1]; exact c1), (show xe_c .eq (xg 0 h.2.1 40 ((xg 0 h.2.1 39 7).toNatClampNeg)) 32 = false by rw [show (xg 0 h.2.1 40 ((xg 0 h.2.1 39 7).toNatClampNeg)) = (nI (T q)) from (by rw [show (xg 0 h.2.1 39 7) = (nI q) from e7, show ((nI q).toNatClampNeg) = q from nI_clamp (by omega)]; exact (hc.2.2 _ (by omega)).2)]; exact c2), (show xe_c .ne (xg 0 h.2.1 40 ((xg 0 h.2.1 39 7).toNatClampNeg)) 10 = false by rw [show (xg 0 h.2.1 40 ((xg 0 h.2.1 39 7).toNatClampNeg)) = (nI (T q)) from (by rw [show (xg 0 h.2.1 39 7) = (nI q) from e7, show ((nI q).toNatClampNeg) = q from nI_clamp (by omega)]; exact (hc.2.2 _ (by omega)).2)]; exact c3), trivial⟩ (fun _ => ?_)
          rw [show (xg 0 h.2.1 39 7) = (nI q) from e7]
          rw [show ((nI q) + (Int32.ofInt 1)) = nI (q + 1) from nI_1 _]
          have hq : a_rq a_tb (xh_ui h 39 7 (nI (q + 1))) := a_rq_ui hq
          exact ih (q + 1) _ hq (rtp_f (S := gS) (L := gL) hc (fx_ui (fx_0) rfl) rfl (fun _ => rfl)) (fx_ui (g0) rfl) (gx_s) (by omega) ((tks_b (by omega) (decide_eq_true (by omega))).symm.trans et)
/-- the reference's next token -/
theorem go_q {f n p : Nat} {T : Nat → Nat} {h : xh_H} (hq : a_rq a_tb h) (hc : rtp h T n) (e7 : xg 0 h.2.1 39 7 = nI p) (hp : p ≤ n) : xq f xi_X10_go xmi_X10_go 0 [(0, .ref 39)] [] h (gr_Q h T n p) := go_l0 f p h hq hc fx_0 e7 hp rfl
end XGR
