section XSX
def L36 (c k : Nat) : Bool := Nat.beq c 39 && (Nat.beq k 36 || Nat.beq k 37)
set_option maxRecDepth 100000 in
set_option maxHeartbeats 4000000 in
/-- X10.orders -/
theorem od_l {n : Nat} {h : xh_H} (n12 : n ≤ 12) (hq : a_rq a_tb h) : ∀ (j f k : Nat), k + j = n → 1 ≤ k → xq f xi_X10_orders xmi_X10_orders 4 [(0, .int (nI n)), (1, .long (nJ (fc k))), (3, .int (nI (k + 1)))] [] h (fun v h' => h = h' ∧ v = some (.long (nJ (fc n)))) := by
  intro j
  induction j with
  | zero =>
    intro f k kj k1
    have e : k = n := by omega
    subst e
    refine xq_n 21 [] [] [.long (nJ (fc k))] h [true] 60 hq rfl ⟨xgt_t (by rw [nI_toInt (by omega), nI_toInt (by omega)]; omega), trivial⟩ (fun _ => ?_)
    exact xq_ret rfl rfl rfl ⟨rfl, rfl⟩
  | succ j ih =>
    intro f k kj k1
    refine xq_n 4 [0, 1, 3] [(0, .int (nI n)), (1, .long (nJ (fc k) * (nI (k + 1)).toInt64)), (3, .int (nI (k + 1) + Int32.ofInt 1))] [] h [false] 60 hq rfl ⟨xgt_f (by rw [nI_toInt (by omega), nI_toInt (by omega)]; omega), trivial⟩ (fun _ => ?_)
    rw [nI_1', nJ_i (by omega), nJ_m]
    exact ih f (k + 1) (by omega) (by omega)
theorem od_q {f n : Nat} {h : xh_H} (n12 : n ≤ 12) (hq : a_rq a_tb h) : xq f xi_X10_orders xmi_X10_orders 0 [(0, .int (nI n))] [] h (fun v h' => h = h' ∧ v = some (.long (nJ (fc n)))) := by
  refine xq_n 4 [0, 1, 3] [(0, .int (nI n)), (1, .long 1), (3, .int (Int32.ofInt 2))] [] h [] 60 hq rfl trivial (fun _ => ?_)
  match n with
  | 0 =>
    refine xq_n 21 [] [] [.long 1] h [true] 60 hq rfl ⟨rfl, trivial⟩ (fun _ => ?_)
    exact xq_ret rfl rfl rfl ⟨rfl, rfl⟩
  | n + 1 => exact od_l n12 hq n f 1 (by omega) (by omega)
set_option maxRecDepth 100000 in
set_option maxHeartbeats 4000000 in
/-- X10.lessen -/
theorem lss_l {u d : Nat} {h : xh_H} (hu : u < 2 ^ 62) (hd : d < 2 ^ 62) (hq : a_rq a_tb h) : ∀ (n f a b : Nat), b < n → a < 2 ^ 62 → b < 2 ^ 62 → Nat.gcd a b = Nat.gcd u d → xq f xi_X10_lessen xmi_X10_lessen 6 [(0, .ref 39), (1, .long (nJ u)), (3, .long (nJ d)), (5, .long (nJ a)), (7, .long (nJ b))] [] h (fun v h' => v = none ∧ fx fN L36 h h' ∧ xg 0 h'.2.2.1 39 36 = (if u = 0 then 0 else nJ (u / Nat.gcd u d)) ∧ xg 0 h'.2.2.1 39 37 = (if u = 0 then 1 else nJ (d / Nat.gcd u d))) := by
  intro n
  induction n with
  | zero => intro f a b hb; omega
  | succ n ih =>
    intro f a b hb ha hb2 e
    rcases Nat.eq_zero_or_pos b with z | z
    · subst z
      rw [Nat.gcd_zero_right] at e
      by_cases u0 : u = 0
      · have gu : xe_c .ne (lg_cmp (nJ u) 0) 0 = false := by rw [xc_ne, nJ_z (by omega), decide_eq_true u0]; rfl
        refine xq_n 67 [] [] [] (xh_ul (xh_ul h 39 36 0) 39 37 1) [true, false, false] 60 hq rfl ⟨nJ_z (b := 0) (by decide), gu, gu, trivial⟩ (fun _ => ?_)
        refine xq_ret rfl rfl rfl ⟨rfl, fx_ul (fx_ul fx_0 rfl) rfl, ?_, ?_⟩
        · rw [gl_k (by decide), gl_s, if_pos u0]
        · rw [gl_s, if_pos u0]
      · have gu : xe_c .ne (lg_cmp (nJ u) 0) 0 = true := by rw [xc_ne, nJ_z (by omega), decide_eq_false u0]; rfl
        refine xq_n 67 [] [] [] (xh_ul (xh_ul h 39 36 (nJ u / nJ a)) 39 37 (nJ d / nJ a)) [true, true, true] 60 hq rfl ⟨nJ_z (b := 0) (by decide), gu, gu, trivial⟩ (fun _ => ?_)
        refine xq_ret rfl rfl rfl ⟨rfl, fx_ul (fx_ul fx_0 rfl) rfl, ?_, ?_⟩
        · rw [gl_k (by decide), gl_s, if_neg u0, nJ_d (by omega) (by omega), e]
        · rw [gl_s, if_neg u0, nJ_d (by omega) (by omega), e]
    · refine xq_n 6 [0, 1, 3, 5, 7] [(0, .ref 39), (1, .long (nJ u)), (3, .long (nJ d)), (5, .long (nJ b)), (7, .long (nJ a - nJ a / nJ b * nJ b))] [] h [false] 60 hq rfl ⟨(nJ_z (by omega)).trans (decide_eq_false (by omega)), trivial⟩ (fun _ => ?_)
      have r := Nat.mod_lt a z
      rw [nJ_r (by omega) (by omega)]
      exact ih f b (a % b) (by omega) hb2 (by omega) (by rw [Nat.gcd_comm b, ← Nat.gcd_rec, Nat.gcd_comm]; exact e)
theorem lss_q {f u d : Nat} {h : xh_H} (hu : u < 2 ^ 62) (hd : d < 2 ^ 62) (hq : a_rq a_tb h) : xq f xi_X10_lessen xmi_X10_lessen 0 [(0, .ref 39), (1, .long (nJ u)), (3, .long (nJ d))] [] h (fun v h' => v = none ∧ fx fN L36 h h' ∧ xg 0 h'.2.2.1 39 36 = (if u = 0 then 0 else nJ (u / Nat.gcd u d)) ∧ xg 0 h'.2.2.1 39 37 = (if u = 0 then 1 else nJ (d / Nat.gcd u d))) := by
  refine xq_n 6 [0, 1, 3, 5, 7] [(0, .ref 39), (1, .long (nJ u)), (3, .long (nJ d)), (5, .long (nJ u)), (7, .long (nJ d))] [] h [] 60 hq rfl trivial (fun _ => ?_)
  exact lss_l hu hd hq (d + 1) f u d (by omega) hu hd rfl
/-- behind a share -/
def shP (W : Nat → Bool) (m a w : Nat) (h : xh_H) (v : Option Value) (h' : xh_H) : Prop := v = none ∧ fx fN L36 h h' ∧ xg 0 h'.2.2.1 39 36 = shV W m a w false ∧ xg 0 h'.2.2.1 39 37 = shV W m a w true
section
variable {W : Nat → Bool} {m : Nat} {h : xh_H}
theorem lsp_q {f a w d : Nat} (m12 : m ≤ 12) (ha : a < m) (hd : d = if dnS W m w = 0 then 1 else dnS W m w) (hq : a_rq a_tb h) : xq f xi_X10_lessen xmi_X10_lessen 0 [(0, .ref 39), (1, .long (nJ (upS W m a w))), (3, .long (nJ d))] [] h (shP W m a w h) := by
  have ub := up_b (W := W) (w := w) m12 ha
  have db := dn_b (W := W) (w := w) m12
  have d2 : d < 2 ^ 62 := by rw [hd]; split <;> omega
  refine xq_mono (lss_q (by omega) d2 hq) (fun v h' e => ?_)
  obtain ⟨e1, e2, e3, e4⟩ := e
  refine ⟨e1, e2, ?_, ?_⟩
  · rw [e3]
    unfold shV
    by_cases z : upS W m a w = 0
    · rw [if_pos z, if_pos z]; rfl
    · rw [if_neg z, if_neg z, hd, if_neg (dn_p m12 ha z)]; rfl
  · rw [e4]
    unfold shV
    by_cases z : upS W m a w = 0
    · rw [if_pos z, if_pos z]; rfl
    · rw [if_neg z, if_neg z, hd, if_neg (dn_p m12 ha z)]; rfl
set_option maxRecDepth 100000 in
set_option maxHeartbeats 4000000 in
/-- X10.shareOfSets -/
theorem ss_l {a : Nat} (A : RA W m h) (m12 : m ≤ 12) (ha : a < m) (hq : a_rq a_tb h) : ∀ (n f i : Nat), i + n = m → xq f xi_X10_shareOfSets xmi_X10_shareOfSets 5 [(0, .ref 39), (1, .int (nI a)), (2, .long (nJ (sm (fun k => cnt (tw W k) (2 ^ m)) i))), (4, .int (nI i))] [] h (shP W m a 0 h) := by
  have p12 : 2 ^ m ≤ 4096 := show 2 ^ m ≤ 2 ^ 12 from Nat.pow_le_pow_right (by decide) m12
  intro n
  induction n with
  | zero =>
    intro f i hn
    have e : i = m := by omega
    subst e
    have db := dn_b (W := W) (w := 0) m12
    have db : sm (fun k => cnt (tw W k) (2 ^ i)) i < 2 ^ 40 := db
    have cl := cnt_le (P := tw W a) (2 ^ i)
    refine xq_n 33 [2] [(2, .long (nJ (sm (fun k => cnt (tw W k) (2 ^ i)) i)))] [.int (nI a), .ref 39, .ref 39] h [true] 60 hq rfl ⟨(show xe_c .ge (nI i) (xg 0 h.2.1 39 4) = true by rw [A.1]; exact nge_t (by omega) (by omega) (Nat.le_refl _)), trivial⟩ (fun _ => ?_)
    refine xq_run hq rfl rfl (tno_q A m12 ha hq) ?_
    rintro v h1 ⟨rfl, rfl⟩
    by_cases z : sm (fun k => cnt (tw W k) (2 ^ i)) i = 0
    · refine xq_n 48 [] [] [.long 1, .long (nI (cnt (tw W a) (2 ^ i))).toInt64, .ref 39] h [false] 60 hq rfl ⟨(show xe_c .ne (lg_cmp (nJ (sm (fun k => cnt (tw W k) (2 ^ i)) i)) 0) 0 = false by rw [xc_ne, nJ_z (by omega), decide_eq_true z]; rfl), trivial⟩ (fun _ => ?_)
      rw [nJ_i (by omega)]
      refine xq_run hq rfl rfl (lsp_q (W := W) (w := 0) (d := 1) m12 ha (if_pos z).symm hq) ?_
      rintro v h1 e
      obtain ⟨rfl, e⟩ := e
      exact xq_ret rfl rfl rfl ⟨rfl, e⟩
    · refine xq_n 48 [] [] [.long (nJ (sm (fun k => cnt (tw W k) (2 ^ i)) i)), .long (nI (cnt (tw W a) (2 ^ i))).toInt64, .ref 39] h [true] 60 hq rfl ⟨(show xe_c .ne (lg_cmp (nJ (sm (fun k => cnt (tw W k) (2 ^ i)) i)) 0) 0 = true by rw [xc_ne, nJ_z (by omega), decide_eq_false z]; rfl), trivial⟩ (fun _ => ?_)
      rw [nJ_i (by omega)]
      refine xq_run hq rfl rfl (lsp_q (W := W) (w := 0) m12 ha (if_neg z).symm hq) ?_
      rintro v h1 e
      obtain ⟨rfl, e⟩ := e
      exact xq_ret rfl rfl rfl ⟨rfl, e⟩
  | succ n ih =>
    intro f i hn
    have cl := cnt_le (P := tw W i) (2 ^ m)
    refine xq_n 18 [0, 1, 2, 4] [(0, .ref 39), (1, .int (nI a)), (2, .long (nJ (sm (fun k => cnt (tw W k) (2 ^ m)) i))), (4, .int (nI i))] [.int (nI i), .ref 39, .long (nJ (sm (fun k => cnt (tw W k) (2 ^ m)) i))] h [false] 60 hq rfl ⟨(show xe_c .ge (nI i) (xg 0 h.2.1 39 4) = false by rw [A.1]; exact nge_f (by omega) (by omega) (by omega)), trivial⟩ (fun _ => ?_)
    refine xq_run hq rfl rfl (tno_q A m12 (by omega) hq) ?_
    rintro v h1 ⟨rfl, rfl⟩
    refine xq_n 5 [0, 1, 2, 4] [(0, .ref 39), (1, .int (nI a)), (2, .long (nJ (sm (fun k => cnt (tw W k) (2 ^ m)) i) + (nI (cnt (tw W i) (2 ^ m))).toInt64)), (4, .int (nI i + Int32.ofInt 1))] [] h [] 60 hq rfl trivial (fun _ => ?_)
    rw [nI_1', nJ_i (by omega), nJ_a]
    exact ih f (i + 1) (by omega)
theorem ss_q {f a : Nat} (A : RA W m h) (m12 : m ≤ 12) (ha : a < m) (hq : a_rq a_tb h) : xq f xi_X10_shareOfSets xmi_X10_shareOfSets 0 [(0, .ref 39), (1, .int (nI a))] [] h (shP W m a 0 h) := by
  refine xq_n 5 [0, 1, 2, 4] [(0, .ref 39), (1, .int (nI a)), (2, .long 0), (4, .int (Int32.ofInt 0))] [] h [] 60 hq rfl trivial (fun _ => ?_)
  exact ss_l A m12 ha hq m f 0 (by omega)
set_option maxRecDepth 100000 in
set_option maxHeartbeats 4000000 in
/-- X10.shareOfOrders -/
theorem so_l {a : Nat} (A : RA W m h) (m12 : m ≤ 12) (ha : a < m) (hq : a_rq a_tb h) : ∀ (n f s : Nat), s + n = 2 ^ m → xq f xi_X10_shareOfOrders xmi_X10_shareOfOrders 5 [(0, .ref 39), (1, .int (nI a)), (2, .long (nJ (sm (tOr W m a) s))), (4, .int (nI s))] [] h (shP W m a 1 h) := by
  have p12 : 2 ^ m ≤ 4096 := show 2 ^ m ≤ 2 ^ 12 from Nat.pow_le_pow_right (by decide) m12
  intro n
  induction n with
  | zero =>
    intro f s sn
    have e : s = 2 ^ m := by omega
    subst e
    refine xq_n 86 [] [] [.int (xg 0 h.2.1 39 4), .long (nJ (sm (tOr W m a) (2 ^ m))), .ref 39] h [true] 60 hq rfl ⟨rgt A m12, trivial⟩ (fun _ => ?_)
    rw [A.1]
    refine xq_run hq rfl rfl (od_q m12 hq) ?_
    rintro v h1 ⟨rfl, rfl⟩
    refine xq_run hq rfl rfl (lsp_q (W := W) (w := 1) (d := fc m) m12 ha (if_neg (Nat.ne_of_gt (fc_l m12).2)).symm hq) ?_
    rintro v h1 e
    obtain ⟨rfl, e⟩ := e
    exact xq_ret rfl rfl rfl ⟨rfl, e⟩
  | succ n ih =>
    intro f s sn
    have hs : s < 2 ^ m := by omega
    have g0 := rgf A m12 hs
    have g1 := bn (rb0 m12 hs ha)
    have g2 := bn (rw0 A m12 hs)
    have g3 := be' (rw1 A m12 hs ha)
    have g := ih f (s + 1) (by omega)
    rw [show sm (tOr W m a) (s + 1) = sm (tOr W m a) s + tOr W m a s from rfl] at g
    have no : tw W a s = false → xq f xi_X10_shareOfOrders xmi_X10_shareOfOrders 5 [(0, .ref 39), (1, .int (nI a)), (2, .long (nJ (sm (tOr W m a) s))), (4, .int (nI s + Int32.ofInt 1))] [] h (shP W m a 1 h) := fun z => by
      rw [show tOr W m a s = 0 from if_neg (by rw [z]; decide), Nat.add_zero] at g
      rw [nI_1']
      exact g
    cases c1 : s.testBit a with
    | true =>
      rw [c1] at g1
      refine xq_n 5 [0, 1, 2, 4] [(0, .ref 39), (1, .int (nI a)), (2, .long (nJ (sm (tOr W m a) s))), (4, .int (nI s + Int32.ofInt 1))] [] h [false, true] 60 hq rfl ⟨g0, g1, trivial⟩ (fun _ => ?_)
      exact no (by unfold tw; rw [c1]; rfl)
    | false =>
      rw [c1] at g1
      cases c2 : W s with
      | true =>
        rw [c2] at g2
        refine xq_n 5 [0, 1, 2, 4] [(0, .ref 39), (1, .int (nI a)), (2, .long (nJ (sm (tOr W m a) s))), (4, .int (nI s + Int32.ofInt 1))] [] h [false, false, true] 60 hq rfl ⟨g0, g1, g2, trivial⟩ (fun _ => ?_)
        exact no (by unfold tw; rw [c1, c2]; rfl)
      | false =>
        rw [c2] at g2
        cases c3 : W (s ||| 2 ^ a) with
        | false =>
          rw [c3] at g3
          refine xq_n 5 [0, 1, 2, 4] [(0, .ref 39), (1, .int (nI a)), (2, .long (nJ (sm (tOr W m a) s))), (4, .int (nI s + Int32.ofInt 1))] [] h [false, false, false, true] 60 hq rfl ⟨g0, g1, g2, g3, trivial⟩ (fun _ => ?_)
          exact no (by unfold tw; rw [c1, c2, c3]; rfl)
        | true =>
          rw [c3] at g3
          have c : tw W a s = true := by unfold tw; rw [c1, c2, c3]; rfl
          have sl := sz_tw m12 hs ha c
          rw [show tOr W m a s = fc (sz s) * fc (m - 1 - sz s) from if_pos c] at g
          refine xq_n 50 [0, 1, 2, 4] [(0, .ref 39), (1, .int (nI a)), (2, .long (nJ (sm (tOr W m a) s))), (4, .int (nI s))] [.int (nI s), .long (nJ (sm (tOr W m a) s))] h [false, false, false, false] 60 hq rfl ⟨g0, g1, g2, g3, trivial⟩ (fun _ => ?_)
          refine xq_run hq rfl rfl (rso_q (by omega) hq) ?_
          rintro v h1 ⟨rfl, rfl⟩
          refine xq_run hq rfl rfl (od_q (by omega) hq) ?_
          rintro v h1 ⟨rfl, rfl⟩
          refine xq_n 64 [0, 1, 2, 4] [(0, .ref 39), (1, .int (nI a)), (2, .long (nJ (sm (tOr W m a) s))), (4, .int (nI s))] [.int (nI s), .int (xg 0 h.2.1 39 4 - Int32.ofInt 1), .long (nJ (fc (sz s))), .long (nJ (sm (tOr W m a) s))] h [] 60 hq rfl trivial (fun _ => ?_)
          rw [A.1, show nI m - Int32.ofInt 1 = nI (m - 1) from nI_sub (a := m) (b := 1) (by omega)]
          refine xq_run hq rfl rfl (rso_q (by omega) hq) ?_
          rintro v h1 ⟨rfl, rfl⟩
          refine xq_n 68 [0, 1, 2, 4] [(0, .ref 39), (1, .int (nI a)), (2, .long (nJ (sm (tOr W m a) s))), (4, .int (nI s))] [.int (nI (m - 1) - nI (sz s)), .long (nJ (fc (sz s))), .long (nJ (sm (tOr W m a) s))] h [] 60 hq rfl trivial (fun _ => ?_)
          rw [nI_sub (by omega)]
          refine xq_run hq rfl rfl (od_q (by omega) hq) ?_
          rintro v h1 ⟨rfl, rfl⟩
          refine xq_n 5 [0, 1, 2, 4] [(0, .ref 39), (1, .int (nI a)), (2, .long (nJ (sm (tOr W m a) s) + nJ (fc (sz s)) * nJ (fc (m - 1 - sz s)))), (4, .int (nI s + Int32.ofInt 1))] [] h [] 60 hq rfl trivial (fun _ => ?_)
          rw [nI_1', nJ_m, nJ_a]
          exact g
theorem so_q {f a : Nat} (A : RA W m h) (m12 : m ≤ 12) (ha : a < m) (hq : a_rq a_tb h) : xq f xi_X10_shareOfOrders xmi_X10_shareOfOrders 0 [(0, .ref 39), (1, .int (nI a))] [] h (shP W m a 1 h) := by
  refine xq_n 5 [0, 1, 2, 4] [(0, .ref 39), (1, .int (nI a)), (2, .long 0), (4, .int (Int32.ofInt 0))] [] h [] 60 hq rfl trivial (fun _ => ?_)
  exact so_l A m12 ha hq (2 ^ m) f 0 (by omega)
set_option maxRecDepth 100000 in
set_option maxHeartbeats 4000000 in
/-- X10.shareOfLeast -/
theorem sl_l {a : Nat} (A : RA W m h) (m12 : m ≤ 12) (ha : a < m) (hq : a_rq a_tb h) : ∀ (n f s : Nat), s + n = 2 ^ m → xq f xi_X10_shareOfLeast xmi_X10_shareOfLeast 8 [(0, .ref 39), (1, .int (nI a)), (2, .long (nJ (sm (tLe W m a) s))), (4, .long (nJ (cnt (mi W m false) s))), (6, .int (nI s))] [] h (shP W m a 2 h) := by
  have p12 : 2 ^ m ≤ 4096 := show 2 ^ m ≤ 2 ^ 12 from Nat.pow_le_pow_right (by decide) m12
  intro n
  induction n with
  | zero =>
    intro f s sn
    have e : s = 2 ^ m := by omega
    subst e
    have cl := cnt_le (P := mi W m false) (2 ^ m)
    by_cases z : cnt (mi W m false) (2 ^ m) = 0
    · refine xq_n 83 [] [] [.long 1, .long (nJ (sm (tLe W m a) (2 ^ m))), .ref 39] h [true, false] 60 hq rfl ⟨rgt A m12, (show xe_c .ne (lg_cmp (nJ (cnt (mi W m false) (2 ^ m))) 0) 0 = false by rw [xc_ne, nJ_z (by omega), decide_eq_true z]; rfl), trivial⟩ (fun _ => ?_)
      refine xq_run hq rfl rfl (lsp_q (W := W) (w := 2) (d := 1) m12 ha (if_pos (show 27720 * cnt (mi W m false) (2 ^ m) = 0 by omega)).symm hq) ?_
      rintro v h1 e
      obtain ⟨rfl, e⟩ := e
      exact xq_ret rfl rfl rfl ⟨rfl, e⟩
    · refine xq_n 83 [] [] [.long (27720 * nJ (cnt (mi W m false) (2 ^ m))), .long (nJ (sm (tLe W m a) (2 ^ m))), .ref 39] h [true, true] 60 hq rfl ⟨rgt A m12, (show xe_c .ne (lg_cmp (nJ (cnt (mi W m false) (2 ^ m))) 0) 0 = true by rw [xc_ne, nJ_z (by omega), decide_eq_false z]; rfl), trivial⟩ (fun _ => ?_)
      rw [show (27720 : Int64) = nJ 27720 from rfl, nJ_m]
      refine xq_run hq rfl rfl (lsp_q (W := W) (w := 2) (d := 27720 * cnt (mi W m false) (2 ^ m)) m12 ha (if_neg (show ¬ 27720 * cnt (mi W m false) (2 ^ m) = 0 by omega)).symm hq) ?_
      rintro v h1 e
      obtain ⟨rfl, e⟩ := e
      exact xq_ret rfl rfl rfl ⟨rfl, e⟩
  | succ n ih =>
    intro f s sn
    have hs : s < 2 ^ m := by omega
    have g := ih f (s + 1) (by omega)
    rw [show sm (tLe W m a) (s + 1) = sm (tLe W m a) s + tLe W m a s from rfl] at g
    refine xq_n 20 [0, 1, 2, 4, 6] [(0, .ref 39), (1, .int (nI a)), (2, .long (nJ (sm (tLe W m a) s))), (4, .long (nJ (cnt (mi W m false) s))), (6, .int (nI s))] [.int (nI s), .ref 39] h [false] 60 hq rfl ⟨rgf A m12 hs, trivial⟩ (fun _ => ?_)
    refine xq_run hq rfl rfl (rle_q A m12 hs hq) ?_
    rintro v h1 ⟨rfl, rfl⟩
    cases c : mi W m false s with
    | false =>
      rw [show tLe W m a s = 0 from if_neg (by rw [c]; decide), Nat.add_zero, cnt_f c] at g
      refine xq_n 8 [0, 1, 2, 4, 6] [(0, .ref 39), (1, .int (nI a)), (2, .long (nJ (sm (tLe W m a) s))), (4, .long (nJ (cnt (mi W m false) s))), (6, .int (nI s + Int32.ofInt 1))] [] h [false] 60 hq rfl ⟨rfl, trivial⟩ (fun _ => ?_)
      rw [nI_1']
      exact g
    | true =>
      rw [cnt_t c, ← nJ_a (a := cnt (mi W m false) s) (b := 1)] at g
      have eb := rb0 m12 hs ha
      cases c2 : s.testBit a with
      | false =>
        rw [show tLe W m a s = 0 by unfold tLe; rw [if_pos c, if_neg (by rw [c2]; decide)], Nat.add_zero] at g
        refine xq_n 8 [0, 1, 2, 4, 6] [(0, .ref 39), (1, .int (nI a)), (2, .long (nJ (sm (tLe W m a) s))), (4, .long (nJ (cnt (mi W m false) s) + 1)), (6, .int (nI s + Int32.ofInt 1))] [] h [true, true] 60 hq rfl ⟨rfl, (show xe_c .ne ((nI s >>> (nI a &&& 31)) &&& Int32.ofInt 1) (Int32.ofInt 1) = true by rw [eb, c2]; rfl), trivial⟩ (fun _ => ?_)
        rw [nI_1']
        exact g
      | true =>
        have s1 := sz_1 (show a < 12 by omega) c2
        have s2 := sz_le (s := s)
        rw [show tLe W m a s = 27720 / sz s by unfold tLe; rw [if_pos c, if_pos c2]] at g
        refine xq_n 51 [0, 1, 2, 4, 6] [(0, .ref 39), (1, .int (nI a)), (2, .long (nJ (sm (tLe W m a) s))), (4, .long (nJ (cnt (mi W m false) s) + 1)), (6, .int (nI s))] [.int (nI s), .long 27720, .long (nJ (sm (tLe W m a) s))] h [true, false] 60 hq rfl ⟨rfl, (show xe_c .ne ((nI s >>> (nI a &&& 31)) &&& Int32.ofInt 1) (Int32.ofInt 1) = false by rw [eb, c2]; rfl), trivial⟩ (fun _ => ?_)
        refine xq_run hq rfl rfl (rso_q (by omega) hq) ?_
        rintro v h1 ⟨rfl, rfl⟩
        refine xq_n 8 [0, 1, 2, 4, 6] [(0, .ref 39), (1, .int (nI a)), (2, .long (nJ (sm (tLe W m a) s) + 27720 / (nI (sz s)).toInt64)), (4, .long (nJ (cnt (mi W m false) s) + 1)), (6, .int (nI s + Int32.ofInt 1))] [] h [] 60 hq rfl trivial (fun _ => ?_)
        rw [nI_1', nJ_i (by omega), show (27720 : Int64) = nJ 27720 from rfl, nJ_d (by omega) (by omega), nJ_a]
        exact g
theorem sl_q {f a : Nat} (A : RA W m h) (m12 : m ≤ 12) (ha : a < m) (hq : a_rq a_tb h) : xq f xi_X10_shareOfLeast xmi_X10_shareOfLeast 0 [(0, .ref 39), (1, .int (nI a))] [] h (shP W m a 2 h) := by
  refine xq_n 8 [0, 1, 2, 4, 6] [(0, .ref 39), (1, .int (nI a)), (2, .long 0), (4, .long 0), (6, .int (Int32.ofInt 0))] [] h [] 60 hq rfl trivial (fun _ => ?_)
  exact sl_l A m12 ha hq (2 ^ m) f 0 (by omega)
end
section
variable {mem sc : Nat} {FR RW : Nat → Int32} {d : Int32} {h : xh_H}
/-- share answers these -/
def shG (mem : Nat) (x w z : Int32) : Bool := isM x mem && (decide ((Int32.ofInt 0).toInt ≤ w.toInt ∧ w.toInt ≤ (Int32.ofInt 2).toInt) && decide ((Int32.ofInt 0).toInt ≤ z.toInt ∧ z.toInt ≤ (Int32.ofInt 1).toInt))
set_option maxRecDepth 100000 in
set_option maxHeartbeats 4000000 in
/-- X10.share -/
theorem sh10_q {f : Nat} {x w z : Int32} (m12 : mem ≤ 12) (e4 : xg 0 h.2.1 39 4 = nI mem) (e33 : xg 0 h.2.1 39 33 = nI sc) (sc8 : sc ≤ 8) (e3 : xg 0 h.2.1 39 3 = d) (hF : ∀ k, k < sc → xg 0 h.2.1 51 k = FR k) (hT : ∀ k, k < sc → (xg 0 h.2.1 52 k).toInt ≤ 999) (hR : ∀ k s, k < sc → s < 2 ^ mem → ∃ b : Bool, RW (4096 * k + s) = bl b ∧ xg 0 h.2.1 44 (4096 * k + s) = bl b) (hq : a_rq a_tb h) : xq f xi_X10_share xmi_X10_share 0 [(0, .ref 39), (1, .int x), (2, .int w), (3, .int z)] [] h (fun v h' => (shG mem x w z = true → xg 0 h'.2.1 39 0 = 0 ∧ v = some (.long (shV (cvB FR RW mem sc d) mem x.toInt.toNat w.toInt.toNat (xe_c .ne z 0)))) ∧ (shG mem x w z = false → xg 0 h'.2.1 39 0 = 1) ∧ xg 0 h'.2.2.1 71 0 = xg 0 h.2.2.1 71 0) := by
  have bad : shG mem x w z = false → ∀ lv, xq f xi_X10_share xmi_X10_share 26 ((0, .ref 39) :: lv) [] h (fun v h' => (shG mem x w z = true → xg 0 h'.2.1 39 0 = 0 ∧ v = some (.long (shV (cvB FR RW mem sc d) mem x.toInt.toNat w.toInt.toNat (xe_c .ne z 0)))) ∧ (shG mem x w z = false → xg 0 h'.2.1 39 0 = 1) ∧ xg 0 h'.2.2.1 71 0 = xg 0 h.2.2.1 71 0) := fun b lv => by
    refine xq_n 27 [] [] [.ref 39] h [] 60 hq rfl trivial (fun _ => ?_)
    refine xq_run (Q1 := fun v h' => v = some (.int (Int32.ofInt 0)) ∧ xh_ui h 39 0 (Int32.ofInt 1) = h') hq rfl rfl ?_ ?_
    · refine xq_n 6 [] [] [.int (Int32.ofInt 0)] (xh_ui h 39 0 (Int32.ofInt 1)) [] 60 hq rfl trivial (fun _ => ?_)
      exact xq_ret rfl rfl rfl ⟨rfl, rfl⟩
    rintro v h1 ⟨rfl, rfl⟩
    have hq : a_rq a_tb (xh_ui h 39 0 (Int32.ofInt 1)) := a_rq_ui hq
    refine xq_n 31 [] [] [.long (Int32.ofInt 0).toInt64] (xh_ui h 39 0 (Int32.ofInt 1)) [] 60 hq rfl trivial (fun _ => ?_)
    exact xq_ret rfl rfl rfl ⟨fun z => (by rw [b] at z; cases z), fun _ => gx_s, rfl⟩
  refine xq_n 2 [0, 1, 2, 3] [(0, .ref 39), (1, .int x), (2, .int w), (3, .int z)] [.int x, .ref 39] h [] 60 hq rfl trivial (fun _ => ?_)
  refine xq_run hq rfl rfl (mem10_q (z := nI mem) e4 hq) ?_
  rintro v h1 ⟨rfl, rfl⟩
  cases c1 : (!xe_c .lt x 0 && !xe_c .ge x (nI mem)) with
  | false =>
    refine xq_n 26 [0] [(0, .ref 39)] [] h [true] 60 hq rfl ⟨rfl, trivial⟩ (fun _ => ?_)
    exact bad (by unfold shG isM; rw [c1]; rfl) []
  | true =>
    refine xq_n 11 [0, 1, 2, 3] [(0, .ref 39), (1, .int x), (2, .int w), (3, .int z)] [.int (Int32.ofInt 2), .int (Int32.ofInt 0), .int w] h [false] 60 hq rfl ⟨rfl, trivial⟩ (fun _ => ?_)
    refine xq_run hq rfl rfl (isIn_q hq) ?_
    rintro v h2 ⟨rfl, rfl⟩
    cases c2 : decide ((Int32.ofInt 0).toInt ≤ w.toInt ∧ w.toInt ≤ (Int32.ofInt 2).toInt) with
    | false =>
      refine xq_n 26 [0] [(0, .ref 39)] [] h [true] 60 hq rfl ⟨rfl, trivial⟩ (fun _ => ?_)
      exact bad (by unfold shG; rw [c2, Bool.false_and, Bool.and_false]) []
    | true =>
      refine xq_n 20 [0, 1, 2, 3] [(0, .ref 39), (1, .int x), (2, .int w), (3, .int z)] [.int (Int32.ofInt 1), .int (Int32.ofInt 0), .int z] h [false] 60 hq rfl ⟨rfl, trivial⟩ (fun _ => ?_)
      refine xq_run hq rfl rfl (isIn_q hq) ?_
      rintro v h2 ⟨rfl, rfl⟩
      cases c3 : decide ((Int32.ofInt 0).toInt ≤ z.toInt ∧ z.toInt ≤ (Int32.ofInt 1).toInt) with
      | false =>
        refine xq_n 26 [0] [(0, .ref 39)] [] h [false] 60 hq rfl ⟨rfl, trivial⟩ (fun _ => ?_)
        exact bad (by unfold shG; rw [c3, Bool.and_false, Bool.and_false]) []
      | true =>
        have gG : shG mem x w z = true := by unfold shG isM; rw [c1, c2, c3]; rfl
        rw [gG]
        obtain ⟨a, rfl, al, ea⟩ := mb_n m12 c1
        rw [ea]
        have w0 : (0 : Int) ≤ w.toInt := (of_decide_eq_true c2).1
        have w2 : w.toInt ≤ (2 : Int) := (of_decide_eq_true c2).2
        obtain ⟨wn, ew, wl, -⟩ := a_nk (x := w) (m := 2) w0 w2
        rw [ew, show (nI wn).toInt.toNat = wn by rw [nI_toInt (by omega)]; rfl]
        refine xq_n 38 [0, 1, 2, 3] [(0, .ref 39), (1, .int (nI a)), (2, .int (nI wn)), (3, .int z)] [.ref 39] (xh_ui h 39 0 (Int32.ofInt 0)) [true] 60 hq rfl ⟨rfl, trivial⟩ (fun _ => ?_)
        have hq : a_rq a_tb (xh_ui h 39 0 (Int32.ofInt 0)) := a_rq_ui hq
        refine xq_run hq rfl rfl (ly_q m12 e4 e33 sc8 e3 hF hT hR hq) ?_
        rintro v h1 ⟨rfl, g1, A⟩
        have hq := fx_q g1 hq
        generalize cvB FR RW mem sc d = W at A ⊢
        have t0 : xg 0 h1.2.1 39 0 = 0 := (fx_i g1 rfl).trans gx_s
        have fin : ∀ lw h2, fx fN L36 h1 h2 → xg 0 h2.2.2.1 39 36 = shV W mem a wn false → xg 0 h2.2.2.1 39 37 = shV W mem a wn true → xq f xi_X10_share xmi_X10_share 71 ((0, .ref 39) :: (3, .int z) :: lw) [] h2 (fun v h' => (true = true → xg 0 h'.2.1 39 0 = 0 ∧ v = some (.long (shV W mem a wn (xe_c .ne z 0)))) ∧ (true = false → xg 0 h'.2.1 39 0 = 1) ∧ xg 0 h'.2.2.1 71 0 = xg 0 h.2.2.1 71 0) := fun lw h2 g2 e36 e37 => by
          have hq2 := fx_q g2 hq
          have e72 : xg 0 h2.2.2.1 71 0 = xg 0 h.2.2.1 71 0 := (fx_l (c := 71) (k := 0) g2 rfl).trans (show xg 0 h1.2.2.1 71 0 = xg 0 (xh_ui h 39 0 (Int32.ofInt 0)).2.2.1 71 0 from fx_l g1 rfl)
          cases c : xe_c .ne z 0 with
          | true =>
            refine xq_n 86 [] [] [.long (xg 0 h2.2.2.1 39 37)] h2 [true] 60 hq2 rfl ⟨c, trivial⟩ (fun _ => ?_)
            exact xq_ret rfl rfl rfl ⟨fun _ => ⟨(fx_i g2 rfl).trans t0, by rw [e37]⟩, fun z => (by cases z), e72⟩
          | false =>
            refine xq_n 86 [] [] [.long (xg 0 h2.2.2.1 39 36)] h2 [false] 60 hq2 rfl ⟨c, trivial⟩ (fun _ => ?_)
            exact xq_ret rfl rfl rfl ⟨fun _ => ⟨(fx_i g2 rfl).trans t0, by rw [e36]⟩, fun z => (by cases z), e72⟩
        match wn, wl with
        | 0, _ =>
          refine xq_n 47 [0, 3] [(0, .ref 39), (3, .int z)] [.int (nI a), .ref 39] h1 [false] 60 hq rfl ⟨rfl, trivial⟩ (fun _ => ?_)
          refine xq_run hq rfl rfl (ss_q A m12 al hq) ?_
          rintro v h2 ⟨rfl, g2, e36, e37⟩
          refine xq_n 71 [0, 3] [(0, .ref 39), (3, .int z)] [] h2 [] 60 (fx_q g2 hq) rfl trivial (fun _ => ?_)
          exact fin [] h2 g2 e36 e37
        | 1, _ =>
          refine xq_n 60 [0, 3] [(0, .ref 39), (3, .int z)] [.int (nI a), .ref 39] h1 [true, false] 60 hq rfl ⟨rfl, rfl, trivial⟩ (fun _ => ?_)
          refine xq_run hq rfl rfl (so_q A m12 al hq) ?_
          rintro v h2 ⟨rfl, g2, e36, e37⟩
          refine xq_n 71 [0, 3] [(0, .ref 39), (3, .int z)] [] h2 [] 60 (fx_q g2 hq) rfl trivial (fun _ => ?_)
          exact fin [] h2 g2 e36 e37
        | 2, _ =>
          refine xq_n 68 [0, 3] [(0, .ref 39), (3, .int z)] [.int (nI a), .ref 39] h1 [true, true] 60 hq rfl ⟨rfl, rfl, trivial⟩ (fun _ => ?_)
          refine xq_run hq rfl rfl (sl_q A m12 al hq) ?_
          rintro v h2 ⟨rfl, g2, e36, e37⟩
          exact fin [] h2 g2 e36 e37
        | wn + 3, wl => omega
end
end XSX
