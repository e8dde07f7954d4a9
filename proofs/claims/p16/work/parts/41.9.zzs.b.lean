section
section XSW
set_option maxRecDepth 100000 in
set_option maxHeartbeats 4000000 in
/-- X9.commonDivisor -/
theorem cd_l {h : xh_H} (hq : a_rq a_tb h) : ∀ (n f i a b : Nat), b ≤ a → a < 2 ^ 62 → a * b < 2 ^ n → i + n ≤ 99 → xq f xi_X9_commonDivisor xmi_X9_commonDivisor 9 [(4, .long (nJ a)), (6, .long (nJ b)), (8, .int (nI i))] [] h (fun v h' => h = h' ∧ v = some (.long (nJ (Nat.gcd a b)))) := by
  have fin : ∀ (f i a : Nat), i ≤ 99 → xq f xi_X9_commonDivisor xmi_X9_commonDivisor 9 [(4, .long (nJ a)), (6, .long (nJ 0)), (8, .int (nI i))] [] h (fun v h' => h = h' ∧ v = some (.long (nJ (Nat.gcd a 0)))) := by
    intro f i a hi
    refine xq_n 46 [] [] [.long (nJ a)] h [false, true] 60 hq rfl ⟨nge_f (b := 100) (by omega) (by decide) (by omega), nJ_z (b := 0) (by decide), trivial⟩ (fun _ => ?_)
    exact xq_ret rfl rfl rfl ⟨rfl, by rw [Nat.gcd_zero_right]⟩
  intro n
  induction n with
  | zero =>
    intro f i a b hb ha hp hi
    have : b = 0 := by
      rcases Nat.eq_zero_or_pos b with z | z
      · exact z
      · have := Nat.mul_le_mul hb z
        have e : 2 ^ 0 = 1 := rfl
        have := Nat.mul_pos (Nat.lt_of_lt_of_le z hb) z
        omega
    subst this
    exact fin f i a (by omega)
  | succ n ih =>
    intro f i a b hb ha hp hi
    rcases Nat.eq_zero_or_pos b with z | z
    · subst z; exact fin f i a (by omega)
    · refine xq_n 9 [4, 6, 8] [(4, .long (nJ b)), (6, .long (nJ a - nJ a / nJ b * nJ b)), (8, .int (nI i + Int32.ofInt 1))] [] h [false, false] 60 hq rfl ⟨nge_f (b := 100) (by omega) (by decide) (by omega), (nJ_z (by omega)).trans (decide_eq_false (by omega)), trivial⟩ (fun _ => ?_)
      rw [nI_1', nJ_r (by omega) (by omega)]
      have r := Nat.mod_lt a z
      have h1 : a = b * (a / b) + a % b := (Nat.div_add_mod a b).symm
      have h2 : 1 ≤ a / b := (Nat.one_le_div_iff z).mpr hb
      have h3 : b ≤ b * (a / b) := Nat.le_mul_of_pos_right b h2
      have h4 : b + a % b ≤ a := by omega
      have h5 : (b + a % b) * b ≤ a * b := Nat.mul_le_mul_right b h4
      have h6 : a % b * b ≤ b * b := Nat.mul_le_mul_right b (Nat.le_of_lt r)
      rw [Nat.add_mul] at h5
      have h7 : 2 ^ (n + 1) = 2 * 2 ^ n := by rw [Nat.pow_succ, Nat.mul_comm]
      have g := ih f (i + 1) b (a % b) (Nat.le_of_lt r) (by omega) (by rw [Nat.mul_comm]; omega) (by omega)
      rw [show Nat.gcd b (a % b) = Nat.gcd a b by rw [Nat.gcd_comm b, ← Nat.gcd_rec, Nat.gcd_comm]] at g
      exact g
theorem cd_q {f a b : Nat} {h : xh_H} (ha : a < 2 ^ 40) (hb : b < 2 ^ 40) (hq : a_rq a_tb h) : xq f xi_X9_commonDivisor xmi_X9_commonDivisor 0 [(0, .long (nJ a)), (2, .long (nJ b))] [] h (fun v h' => h = h' ∧ v = some (.long (nJ (Nat.gcd a b)))) := by
  have pr : a * b < 2 ^ 90 := Nat.lt_of_le_of_lt (Nat.mul_le_mul (Nat.le_of_lt ha) (Nat.le_of_lt hb)) (by decide)
  refine xq_n 9 [4, 6, 8] [(4, .long (nJ a)), (6, .long (nJ b)), (8, .int (Int32.ofInt 0))] [] h [] 60 hq rfl trivial (fun _ => ?_)
  by_cases z : b ≤ a
  · exact cd_l hq 90 f 0 a b z (by omega) pr (by decide)
  · refine xq_n 9 [4, 6, 8] [(4, .long (nJ b)), (6, .long (nJ a - nJ a / nJ b * nJ b)), (8, .int (nI 0 + Int32.ofInt 1))] [] h [false, false] 60 hq rfl ⟨nge_f (a := 0) (b := 100) (by omega) (by decide) (by omega), (nJ_z (by omega)).trans (decide_eq_false (by omega)), trivial⟩ (fun _ => ?_)
    rw [nI_1', nJ_r (by omega) (by omega), Nat.mod_eq_of_lt (by omega), Nat.gcd_comm]
    exact cd_l hq 90 f 1 b a (by omega) (by omega) (by rw [Nat.mul_comm]; exact pr) (by decide)
section
variable {W : Nat → Bool} {m q r : Nat} {h : xh_H}
set_option maxRecDepth 100000 in
set_option maxHeartbeats 4000000 in
/-- Powers.ordersOf -/
theorem oo_l {a : Nat} (A : LA W m q r h) (m12 : m ≤ 12) (ha : a < m) (hq : a_rq a_tb h) : ∀ (n f s : Nat), s + n = 2 ^ m → xq f xi_X2_ordersOf xmi_X2_ordersOf 5 [(0, .ref 14), (1, .int (nI a)), (2, .long (nJ (sm (tOr W m a) s))), (4, .int (nI s))] [] h (fun v h' => h = h' ∧ v = some (.long (nJ (sm (tOr W m a) (2 ^ m))))) := by
  have p12 : 2 ^ m ≤ 4096 := show 2 ^ m ≤ 2 ^ 12 from Nat.pow_le_pow_right (by decide) m12
  intro n
  induction n with
  | zero =>
    intro f s sn
    have e : s = 2 ^ m := by omega
    subst e
    refine xq_n 61 [] [] [.long (nJ (sm (tOr W m a) (2 ^ m)))] h [true] 60 hq rfl ⟨gtt A m12, trivial⟩ (fun _ => ?_)
    exact xq_ret rfl rfl rfl ⟨rfl, rfl⟩
  | succ n ih =>
    intro f s sn
    have hs : s < 2 ^ m := by omega
    refine xq_n 18 [0, 1, 2, 4] [(0, .ref 14), (1, .int (nI a)), (2, .long (nJ (sm (tOr W m a) s))), (4, .int (nI s))] [.int (nI a), .int (nI s), .ref 14] h [false] 60 hq rfl ⟨gtf A m12 hs, trivial⟩ (fun _ => ?_)
    refine xq_run hq rfl rfl (tb_q A m12 hs ha hq) ?_
    rintro v h1 ⟨rfl, rfl⟩
    have g := ih f (s + 1) (by omega)
    rw [show sm (tOr W m a) (s + 1) = sm (tOr W m a) s + tOr W m a s from rfl] at g
    cases c : tw W a s with
    | false =>
      rw [show tOr W m a s = 0 from if_neg (by rw [c]; decide), Nat.add_zero] at g
      refine xq_n 5 [0, 1, 2, 4] [(0, .ref 14), (1, .int (nI a)), (2, .long (nJ (sm (tOr W m a) s))), (4, .int (nI s + Int32.ofInt 1))] [] h [true] 60 hq rfl ⟨rfl, trivial⟩ (fun _ => ?_)
      rw [nI_1']
      exact g
    | true =>
      have sl := sz_tw m12 hs ha c
      rw [show tOr W m a s = fc (sz s) * fc (m - 1 - sz s) from if_pos c] at g
      refine xq_n 26 [0, 1, 2, 4] [(0, .ref 14), (1, .int (nI a)), (2, .long (nJ (sm (tOr W m a) s))), (4, .int (nI s))] [.int (nI s)] h [false] 60 hq rfl ⟨rfl, trivial⟩ (fun _ => ?_)
      refine xq_run hq rfl rfl (bit_q (by omega) hq) ?_
      rintro v h1 ⟨rfl, rfl⟩
      refine xq_n 5 [0, 1, 2, 4] [(0, .ref 14), (1, .int (nI a)), (2, .long (nJ (sm (tOr W m a) s) + xo_f (nI (sz s)).toNatClampNeg * xo_f ((xg 0 h.2.1 14 7 - Int32.ofInt 1) - nI (sz s)).toNatClampNeg)), (4, .int (nI s + Int32.ofInt 1))] [] h [] 60 hq rfl trivial (fun _ => ?_)
      rw [nI_1', A.2.2.2.2.1, show nI m - Int32.ofInt 1 = nI (m - 1) from nI_sub (a := m) (b := 1) (by omega), nI_sub (by omega), nI_clamp (by omega), nI_clamp (by omega), fc_x (by omega), fc_x (by omega), nJ_m, nJ_a]
      exact g
theorem oo_q {f a : Nat} (A : LA W m q r h) (m12 : m ≤ 12) (ha : a < m) (hq : a_rq a_tb h) : xq f xi_X2_ordersOf xmi_X2_ordersOf 0 [(0, .ref 14), (1, .int (nI a))] [] h (fun v h' => h = h' ∧ v = some (.long (nJ (sm (tOr W m a) (2 ^ m))))) := by
  refine xq_n 5 [0, 1, 2, 4] [(0, .ref 14), (1, .int (nI a)), (2, .long 0), (4, .int (Int32.ofInt 0))] [] h [] 60 hq rfl trivial (fun _ => ?_)
  exact oo_l A m12 ha hq (2 ^ m) f 0 (by omega)
/-- one of a row's sets -/
def rwT (h : xh_H) (a j : Nat) : Nat := if (xg 0 h.2.1 15 j).toInt.toNat.testBit a = true then 27720 / sz (xg 0 h.2.1 15 j).toInt.toNat else 0
theorem sz_1 {t a : Nat} (ha : a < 12) (h : t.testBit a = true) : 1 ≤ sz t := by
  have := cnt_lt (P := fun i => t.testBit i) h ha
  unfold sz
  omega
set_option maxRecDepth 100000 in
set_option maxHeartbeats 4000000 in
/-- Powers.partsOf -/
theorem po_l {a L : Nat} (L9 : L ≤ 924) (e9 : xg 0 h.2.1 14 9 = nI L) (R : ∀ j, j < L → ∃ t, t < 4096 ∧ xg 0 h.2.1 15 j = nI t) (ha : a < 12) (hq : a_rq a_tb h) : ∀ (n f i : Nat), i + n = L → xq f xi_X2_partsOf xmi_X2_partsOf 5 [(0, .ref 14), (1, .int (nI a)), (2, .long (nJ (sm (rwT h a) i))), (4, .int (nI i))] [] h (fun v h' => h = h' ∧ v = some (.long (nJ (sm (rwT h a) L)))) := by
  intro n
  induction n with
  | zero =>
    intro f i hn
    have e : i = L := by omega
    subst e
    refine xq_n 62 [] [] [.long (nJ (sm (rwT h a) i))] h [true] 60 hq rfl ⟨(show xe_c .ge (nI i) (xg 0 h.2.1 14 9) = true by rw [e9]; exact nge_t (by omega) (by omega) (Nat.le_refl _)), trivial⟩ (fun _ => ?_)
    exact xq_ret rfl rfl rfl ⟨rfl, rfl⟩
  | succ n ih =>
    intro f i hn
    obtain ⟨t, t12, et⟩ := R i (by omega)
    have ec : xg 0 h.2.1 15 (nI i).toNatClampNeg = nI t := by rw [nI_clamp (by omega)]; exact et
    have en : (xg 0 h.2.1 15 i).toInt.toNat = t := by rw [et, nI_toInt (by omega)]; rfl
    have g := ih f (i + 1) (by omega)
    rw [show sm (rwT h a) (i + 1) = sm (rwT h a) i + rwT h a i from rfl] at g
    have eb : (xg 0 h.2.1 15 (nI i).toNatClampNeg >>> (nI a &&& 31)) &&& Int32.ofInt 1 = bl (t.testBit a) := by rw [ec, nI_b0 (by omega) (by omega), bl_nI]
    have gb := be' eb
    refine xq_n 21 [0, 1, 2, 4] [(0, .ref 14), (1, .int (nI a)), (2, .long (nJ (sm (rwT h a) i))), (4, .int (nI i))] [.int (xg 0 h.2.1 15 (nI i).toNatClampNeg)] h [false] 60 hq rfl ⟨(show xe_c .ge (nI i) (xg 0 h.2.1 14 9) = false by rw [e9]; exact nge_f (by omega) (by omega) (by omega)), trivial⟩ (fun _ => ?_)
    rw [ec]
    refine xq_run hq rfl rfl (bit_q (by omega) hq) ?_
    rintro v h1 ⟨rfl, rfl⟩
    cases c : t.testBit a with
    | false =>
      rw [c] at gb
      rw [show rwT h a i = 0 by unfold rwT; rw [en, c]; rfl, Nat.add_zero] at g
      refine xq_n 5 [0, 1, 2, 4] [(0, .ref 14), (1, .int (nI a)), (2, .long (nJ (sm (rwT h a) i))), (4, .int (nI i + Int32.ofInt 1))] [] h [true] 60 hq rfl ⟨gb, trivial⟩ (fun _ => ?_)
      rw [nI_1']
      exact g
    | true =>
      rw [c] at gb
      have s1 := sz_1 ha c
      have s2 := sz_le (s := t)
      rw [show rwT h a i = 27720 / sz t by unfold rwT; rw [en, c]; rfl] at g
      refine xq_n 5 [0, 1, 2, 4] [(0, .ref 14), (1, .int (nI a)), (2, .long (nJ (sm (rwT h a) i) + 27720 / (nI (sz t)).toInt64)), (4, .int (nI i + Int32.ofInt 1))] [] h [false, false] 60 hq rfl ⟨gb, xle_f (by rw [nI_toInt (by omega)]; show (0 : Int) < _; omega), trivial⟩ (fun _ => ?_)
      rw [nI_1', nJ_i (by omega), show (27720 : Int64) = nJ 27720 from rfl, nJ_d (by omega) (by omega), nJ_a]
      exact g
theorem po_q {f a L : Nat} (L9 : L ≤ 924) (e9 : xg 0 h.2.1 14 9 = nI L) (R : ∀ j, j < L → ∃ t, t < 4096 ∧ xg 0 h.2.1 15 j = nI t) (ha : a < 12) (hq : a_rq a_tb h) : xq f xi_X2_partsOf xmi_X2_partsOf 0 [(0, .ref 14), (1, .int (nI a))] [] h (fun v h' => h = h' ∧ v = some (.long (nJ (sm (rwT h a) L)))) := by
  refine xq_n 5 [0, 1, 2, 4] [(0, .ref 14), (1, .int (nI a)), (2, .long 0), (4, .int (Int32.ofInt 0))] [] h [] 60 hq rfl trivial (fun _ => ?_)
  exact po_l L9 e9 R ha hq L f 0 (by omega)
/-- the least ones in their order, or by their numbers -/
theorem po_e {a : Nat} (m12 : m ≤ 12) (M : Wm W m) (P : PD W m h) : lcn (mi W m false) (2 ^ m) = cnt (mi W m false) (2 ^ m) ∧ (∀ j, j < cnt (mi W m false) (2 ^ m) → ∃ t, t < 4096 ∧ xg 0 h.2.1 15 j = nI t) ∧ sm (rwT h a) (cnt (mi W m false) (2 ^ m)) = sm (tLe W m a) (2 ^ m) := by
  have p12 : 2 ^ m ≤ 4096 := show 2 ^ m ≤ 2 ^ 12 from Nat.pow_le_pow_right (by decide) m12
  have l9 := mi_924 (hd := false) m12 M
  obtain ⟨ra, rb⟩ := rw_all m12 M P.2.2.1.2
  refine ⟨Nat.min_eq_left l9, fun j hj => ?_, ?_⟩
  · obtain ⟨t, t1, -, -, t4⟩ := rb j hj
    exact ⟨t, by omega, t4⟩
  · rw [← sm_p (P := mi W m false) (N := 2 ^ m) (L := cnt (mi W m false) (2 ^ m)) (R := rk (mi W m false) (2 ^ m)) (G := rwT h a) (fun t ht hp => rk_tot hp ht) (fun t t' ht ht' hp hp' e => rk_ij hp hp' ht ht' e) (fun i hi => by
      obtain ⟨t, t1, t2, t3, -⟩ := rb i hi
      exact ⟨t, t1, t2, t3⟩)]
    refine sm_c _ (fun t ht => ?_)
    unfold tLe
    by_cases z : mi W m false t = true
    · rw [if_pos z, if_pos z]
      obtain ⟨t', t1, t2, t3, t4⟩ := rb _ (rk_tot z ht)
      have e := rk_ij t2 z t1 ht t3
      subst e
      unfold rwT
      rw [t4, nI_toInt (by omega)]
      rfl
    · rw [if_neg z, if_neg z]
set_option maxRecDepth 100000 in
set_option maxHeartbeats 4000000 in
theorem lw_l (m12 : m ≤ 12) (e7 : xg 0 h.2.1 14 7 = nI m) (P : PD W m h) (hq : a_rq a_tb h) : ∀ (n f i : Nat), i + n = m → xq f xi_X2_lowerShare xmi_X2_lowerShare 34 [(0, .ref 14), (2, .long (nJ (sm (fun k => cnt (tw W k) (2 ^ m)) i))), (4, .int (nI i))] [] h (fun v h' => h = h' ∧ v = some (.long (nJ (sm (fun k => cnt (tw W k) (2 ^ m)) m)))) := by
  have p12 : 2 ^ m ≤ 4096 := show 2 ^ m ≤ 2 ^ 12 from Nat.pow_le_pow_right (by decide) m12
  intro n
  induction n with
  | zero =>
    intro f i hn
    have e : i = m := by omega
    subst e
    refine xq_n 61 [] [] [.long (nJ (sm (fun k => cnt (tw W k) (2 ^ i)) i))] h [true] 60 hq rfl ⟨(show xe_c .ge (nI i) (xg 0 h.2.1 14 7) = true by rw [e7]; exact nge_t (by omega) (by omega) (Nat.le_refl _)), trivial⟩ (fun _ => ?_)
    exact xq_ret rfl rfl rfl ⟨rfl, rfl⟩
  | succ n ih =>
    intro f i hn
    have := cnt_le (P := tw W i) (2 ^ m)
    refine xq_n 34 [0, 2, 4] [(0, .ref 14), (2, .long (nJ (sm (fun k => cnt (tw W k) (2 ^ m)) i) + (xg 0 h.2.1 17 (nI i).toNatClampNeg).toInt64)), (4, .int (nI i + Int32.ofInt 1))] [] h [false] 60 hq rfl ⟨(show xe_c .ge (nI i) (xg 0 h.2.1 14 7) = false by rw [e7]; exact nge_f (by omega) (by omega) (by omega)), trivial⟩ (fun _ => ?_)
    rw [nI_1', nI_clamp (by omega), P.1 i (by omega), nJ_i (by omega), nJ_a]
    exact ih f (i + 1) (by omega)
set_option maxRecDepth 100000 in
set_option maxHeartbeats 4000000 in
/-- Powers.lowerShare -/
theorem lw_q {f w : Nat} (w2 : w ≤ 2) (m12 : m ≤ 12) (M : Wm W m) (e7 : xg 0 h.2.1 14 7 = nI m) (P : PD W m h) (hq : a_rq a_tb h) : xq f xi_X2_lowerShare xmi_X2_lowerShare 0 [(0, .ref 14), (1, .int (nI w))] [] h (fun v h' => h = h' ∧ v = some (.long (nJ (dnS W m w)))) := by
  match w, w2 with
  | 0, _ =>
    refine xq_n 34 [0, 2, 4] [(0, .ref 14), (2, .long 0), (4, .int (Int32.ofInt 0))] [] h [true, true] 60 hq rfl ⟨rfl, rfl, trivial⟩ (fun _ => ?_)
    exact lw_l m12 e7 P hq m f 0 (by omega)
  | 1, _ =>
    refine xq_n 13 [] [] [.long (xo_f (xg 0 h.2.1 14 7).toNatClampNeg)] h [false] 60 hq rfl ⟨rfl, trivial⟩ (fun _ => ?_)
    refine xq_ret rfl rfl rfl ⟨rfl, ?_⟩
    rw [e7, nI_clamp (by omega), fc_x m12]
    rfl
  | 2, _ =>
    have l9 := mi_924 (hd := false) m12 M
    refine xq_n 28 [] [] [.long (27720 * (xg 0 h.2.1 14 9).toInt64)] h [true, false] 60 hq rfl ⟨rfl, rfl, trivial⟩ (fun _ => ?_)
    refine xq_ret rfl rfl rfl ⟨rfl, ?_⟩
    rw [P.2.2.1.1, show lcn (mi W m false) (2 ^ m) = cnt (mi W m false) (2 ^ m) from Nat.min_eq_left l9, nJ_i (by omega), show (27720 : Int64) = nJ 27720 from rfl, nJ_m]
    rfl
  | w + 3, w2 => omega
set_option maxRecDepth 100000 in
set_option maxHeartbeats 4000000 in
/-- Powers.upperShare -/
theorem uw_q {f w a : Nat} (w2 : w ≤ 2) (m12 : m ≤ 12) (ha : a < m) (M : Wm W m) (A : LA W m q r h) (P : PD W m h) (hq : a_rq a_tb h) : xq f xi_X2_upperShare xmi_X2_upperShare 0 [(0, .ref 14), (1, .int (nI a)), (2, .int (nI w))] [] h (fun v h' => h = h' ∧ v = some (.long (nJ (upS W m a w)))) := by
  have p12 : 2 ^ m ≤ 4096 := show 2 ^ m ≤ 2 ^ 12 from Nat.pow_le_pow_right (by decide) m12
  match w, w2 with
  | 0, _ =>
    have := cnt_le (P := tw W a) (2 ^ m)
    refine xq_n 11 [] [] [.long (xg 0 h.2.1 17 (nI a).toNatClampNeg).toInt64] h [false] 60 hq rfl ⟨rfl, trivial⟩ (fun _ => ?_)
    refine xq_ret rfl rfl rfl ⟨rfl, ?_⟩
    rw [nI_clamp (by omega), P.1 a ha, nJ_i (by omega)]
    rfl
  | 1, _ =>
    refine xq_n 19 [] [] [.int (nI a), .ref 14] h [true, false] 60 hq rfl ⟨rfl, rfl, trivial⟩ (fun _ => ?_)
    refine xq_run hq rfl rfl (oo_q A m12 ha hq) ?_
    rintro v h1 ⟨rfl, rfl⟩
    refine xq_n 30 [] [] [.long (nJ (sm (tOr W m a) (2 ^ m)))] h [] 60 hq rfl trivial (fun _ => ?_)
    exact xq_ret rfl rfl rfl ⟨rfl, rfl⟩
  | 2, _ =>
    obtain ⟨p1, p2, p3⟩ := po_e (a := a) m12 M P
    have l9 := mi_924 (hd := false) m12 M
    refine xq_n 27 [] [] [.int (nI a), .ref 14] h [true, true] 60 hq rfl ⟨rfl, rfl, trivial⟩ (fun _ => ?_)
    refine xq_run hq rfl rfl (po_q l9 (by rw [P.2.2.1.1, p1]) p2 (by omega) hq) ?_
    rintro v h1 ⟨rfl, rfl⟩
    rw [p3]
    exact xq_ret rfl rfl rfl ⟨rfl, rfl⟩
  | w + 3, w2 => omega
end
section
variable {mem sc : Nat} {d : Int32} {h : xh_H}
set_option maxRecDepth 100000 in
set_option maxHeartbeats 4000000 in
/-- X9.share, where it answers -/
theorem sh9_q {f a w : Nat} {z : Int32} (hi : a_inv a_tb h) (hn : 72 ≤ h.1.length) (e9 : xg 0 h.2.1 0 9 = nI mem) (m1 : 1 ≤ mem) (m12 : mem ≤ 12) (e8 : xg 0 h.2.1 0 8 = nI sc) (sc8 : sc ≤ 8) (e10 : xg 0 h.2.1 0 10 = d) (si : SI h) (pi : PI h) (M : Wm (cvB (fun k => xg 0 h.2.1 51 k) (fun k => xg 0 h.2.1 44 k) mem sc d) mem) (ha : a < mem) (w2 : w ≤ 2) (z0 : xe_c .lt z 0 = false) (z1 : xe_c .le z (Int32.ofInt 1) = true) : xq f xi_X9_share xmi_X9_share 0 [(0, .ref 0), (1, .int (nI a)), (2, .int (nI w)), (3, .int z)] [] h (fun v h' => v = some (.long (shV (cvB (fun k => xg 0 h.2.1 51 k) (fun k => xg 0 h.2.1 44 k) mem sc d) mem a w (xe_c .ne z 0))) ∧ Yf h h') := by
  have hq := a_rq_of hi.1 hn
  refine xq_n 2 [0, 1, 2, 3] [(0, .ref 0), (1, .int (nI a)), (2, .int (nI w)), (3, .int z)] [.int (nI a), .ref 0] h [] 60 hq rfl trivial (fun _ => ?_)
  refine xq_run hq rfl rfl (mem9_q (z := nI mem) e9 hq) ?_
  rintro v h1 ⟨rfl, rfl⟩
  rw [show (!xe_c .lt (nI a) 0 && !xe_c .ge (nI a) (nI mem)) = true by rw [xlt_f (by rw [nI_toInt (by omega)]; show (0 : Int) ≤ _; omega), nge_f (by omega) (by omega) ha]; rfl]
  refine xq_n 35 [1, 2, 3] [(1, .int (nI a)), (2, .int (nI w)), (3, .int z)] [.ref 0] h [false, false, false, false, true] 60 hq rfl ⟨rfl, xlt_f (by rw [nI_toInt (by omega)]; show (0 : Int) ≤ _; omega), xgt_f (by rw [nI_toInt (by omega)]; show _ ≤ (2 : Int); omega), z0, z1, trivial⟩ (fun _ => ?_)
  refine xq_run hq rfl rfl (pt9_q hi hn e9 m1 m12 e8 sc8 e10 si pi) ?_
  rintro v h1 ⟨rfl, Y, PP, q, r, A, P⟩
  have hq1 := Yf_q hi hn Y
  generalize cvB (fun k => xg 0 h.2.1 51 k) (fun k => xg 0 h.2.1 44 k) mem sc d = W at M A P ⊢
  refine xq_n 44 [1, 2, 3, 4] [(1, .int (nI a)), (2, .int (nI w)), (3, .int z), (4, .ref 14)] [.int (nI w), .int (nI a), .ref 14] h1 [] 60 hq1 rfl trivial (fun _ => ?_)
  refine xq_run hq1 rfl rfl (uw_q w2 m12 ha M A P hq1) ?_
  rintro v h2 ⟨rfl, rfl⟩
  refine xq_n 52 [1, 2, 3, 4, 5] [(1, .int (nI a)), (2, .int (nI w)), (3, .int z), (4, .ref 14), (5, .long (nJ (upS W mem a w)))] [.int (nI w), .ref 14] h1 [] 60 hq1 rfl trivial (fun _ => ?_)
  refine xq_run hq1 rfl rfl (lw_q w2 m12 M A.2.2.2.2.1 P hq1) ?_
  rintro v h2 ⟨rfl, rfl⟩
  refine xq_n 61 [3, 5, 7] [(3, .int z), (5, .long (nJ (upS W mem a w))), (7, .long (nJ (dnS W mem w)))] [.long (nJ (dnS W mem w)), .long (nJ (upS W mem a w))] h1 [] 60 hq1 rfl trivial (fun _ => ?_)
  have ub := up_b (W := W) (w := w) m12 ha
  have db := dn_b (W := W) (w := w) m12
  refine xq_run hq1 rfl rfl (cd_q ub db hq1) ?_
  rintro v h2 ⟨rfl, rfl⟩
  unfold shV
  by_cases u0 : upS W mem a w = 0
  · rw [if_pos u0]
    have g1 : xe_c .eq (lg_cmp (nJ (upS W mem a w)) 0) 0 = true := (nJ_z (by omega)).trans (decide_eq_true u0)
    cases c : xe_c .ne z 0 with
    | true =>
      refine xq_n 89 [] [] [.long 1] h1 [true, true] 60 hq1 rfl ⟨g1, c, trivial⟩ (fun _ => ?_)
      exact xq_ret rfl rfl rfl ⟨rfl, Y⟩
    | false =>
      refine xq_n 89 [] [] [.long 0] h1 [true, false] 60 hq1 rfl ⟨g1, c, trivial⟩ (fun _ => ?_)
      exact xq_ret rfl rfl rfl ⟨rfl, Y⟩
  · rw [if_neg u0]
    have gl : Nat.gcd (upS W mem a w) (dnS W mem w) ≤ upS W mem a w := Nat.gcd_le_left _ (by omega)
    have g0 : 0 < Nat.gcd (upS W mem a w) (dnS W mem w) := Nat.gcd_pos_of_pos_left _ (by omega)
    have g1 : xe_c .eq (lg_cmp (nJ (upS W mem a w)) 0) 0 = false := (nJ_z (by omega)).trans (decide_eq_false u0)
    have g2 := nJ_g g0 (by omega)
    cases c : xe_c .ne z 0 with
    | true =>
      refine xq_n 107 [] [] [.long (nJ (dnS W mem w) / nJ (Nat.gcd (upS W mem a w) (dnS W mem w)))] h1 [false, true, true] 60 hq1 rfl ⟨g1, g2, c, trivial⟩ (fun _ => ?_)
      exact xq_ret rfl rfl rfl ⟨by rw [nJ_d (by omega) (by omega)]; rfl, Y⟩
    | false =>
      refine xq_n 107 [] [] [.long (nJ (upS W mem a w) / nJ (Nat.gcd (upS W mem a w) (dnS W mem w)))] h1 [false, true, false] 60 hq1 rfl ⟨g1, g2, c, trivial⟩ (fun _ => ?_)
      exact xq_ret rfl rfl rfl ⟨by rw [nJ_d (by omega) (by omega)]; rfl, Y⟩
end
end XSW
end
section
section XSX
def L36 (c k : Nat) : Bool := Nat.beq c 39 && (Nat.beq k 36 || Nat.beq k 37)
set_option maxRecDepth 100000 in
set_option maxHeartbeats 4000000 in
/-- X10.orders -/
theorem od_l {n : Nat} {h : xh_H} (n12 : n ≤ 12) (hq : a_rq a_tb h) : ∀ (j f k : Nat), k + j = n → 1 ≤ k → xq f xi_X10_orders xmi_X10_orders 4 [(0, .int (nI n)), (1, .long (nJ (fc k))), (3, .int (nI (k + 1)))] [] h (fun v h' => h = h' ∧ v = some (.long (nJ (fc n)))) := by
  intro j
  induction j with
  | zero =>
    intro f k kj k1
    have e : k = n := by omega
    subst e
    refine xq_n 21 [] [] [.long (nJ (fc k))] h [true] 60 hq rfl ⟨xgt_t (by rw [nI_toInt (by omega), nI_toInt (by omega)]; omega), trivial⟩ (fun _ => ?_)
    exact xq_ret rfl rfl rfl ⟨rfl, rfl⟩
  | succ j ih =>
    intro f k kj k1
    refine xq_n 4 [0, 1, 3] [(0, .int (nI n)), (1, .long (nJ (fc k) * (nI (k + 1)).toInt64)), (3, .int (nI (k + 1) + Int32.ofInt 1))] [] h [false] 60 hq rfl ⟨xgt_f (by rw [nI_toInt (by omega), nI_toInt (by omega)]; omega), trivial⟩ (fun _ => ?_)
    rw [nI_1', nJ_i (by omega), nJ_m]
    exact ih f (k + 1) (by omega) (by omega)
theorem od_q {f n : Nat} {h : xh_H} (n12 : n ≤ 12) (hq : a_rq a_tb h) : xq f xi_X10_orders xmi_X10_orders 0 [(0, .int (nI n))] [] h (fun v h' => h = h' ∧ v = some (.long (nJ (fc n)))) := by
  refine xq_n 4 [0, 1, 3] [(0, .int (nI n)), (1, .long 1), (3, .int (Int32.ofInt 2))] [] h [] 60 hq rfl trivial (fun _ => ?_)
  match n with
  | 0 =>
    refine xq_n 21 [] [] [.long 1] h [true] 60 hq rfl ⟨rfl, trivial⟩ (fun _ => ?_)
    exact xq_ret rfl rfl rfl ⟨rfl, rfl⟩
  | n + 1 => exact od_l n12 hq n f 1 (by omega) (by omega)
set_option maxRecDepth 100000 in
set_option maxHeartbeats 4000000 in
/-- X10.lessen -/
theorem lss_l {u d : Nat} {h : xh_H} (hu : u < 2 ^ 62) (hd : d < 2 ^ 62) (hq : a_rq a_tb h) : ∀ (n f a b : Nat), b < n → a < 2 ^ 62 → b < 2 ^ 62 → Nat.gcd a b = Nat.gcd u d → xq f xi_X10_lessen xmi_X10_lessen 6 [(0, .ref 39), (1, .long (nJ u)), (3, .long (nJ d)), (5, .long (nJ a)), (7, .long (nJ b))] [] h (fun v h' => v = none ∧ fx fN L36 h h' ∧ xg 0 h'.2.2.1 39 36 = (if u = 0 then 0 else nJ (u / Nat.gcd u d)) ∧ xg 0 h'.2.2.1 39 37 = (if u = 0 then 1 else nJ (d / Nat.gcd u d))) := by
  intro n
  induction n with
  | zero => intro f a b hb; omega
  | succ n ih =>
    intro f a b hb ha hb2 e
    rcases Nat.eq_zero_or_pos b with z | z
    · subst z
      rw [Nat.gcd_zero_right] at e
      by_cases u0 : u = 0
      · have gu : xe_c .ne (lg_cmp (nJ u) 0) 0 = false := by rw [xc_ne, nJ_z (by omega), decide_eq_true u0]; rfl
        refine xq_n 67 [] [] [] (xh_ul (xh_ul h 39 36 0) 39 37 1) [true, false, false] 60 hq rfl ⟨nJ_z (b := 0) (by decide), gu, gu, trivial⟩ (fun _ => ?_)
        refine xq_ret rfl rfl rfl ⟨rfl, fx_ul (fx_ul fx_0 rfl) rfl, ?_, ?_⟩
        · rw [gl_k (by decide), gl_s, if_pos u0]
        · rw [gl_s, if_pos u0]
      · have gu : xe_c .ne (lg_cmp (nJ u) 0) 0 = true := by rw [xc_ne, nJ_z (by omega), decide_eq_false u0]; rfl
        refine xq_n 67 [] [] [] (xh_ul (xh_ul h 39 36 (nJ u / nJ a)) 39 37 (nJ d / nJ a)) [true, true, true] 60 hq rfl ⟨nJ_z (b := 0) (by decide), gu, gu, trivial⟩ (fun _ => ?_)
        refine xq_ret rfl rfl rfl ⟨rfl, fx_ul (fx_ul fx_0 rfl) rfl, ?_, ?_⟩
        · rw [gl_k (by decide), gl_s, if_neg u0, nJ_d (by omega) (by omega), e]
        · rw [gl_s, if_neg u0, nJ_d (by omega) (by omega), e]
    · refine xq_n 6 [0, 1, 3, 5, 7] [(0, .ref 39), (1, .long (nJ u)), (3, .long (nJ d)), (5, .long (nJ b)), (7, .long (nJ a - nJ a / nJ b * nJ b))] [] h [false] 60 hq rfl ⟨(nJ_z (by omega)).trans (decide_eq_false (by omega)), trivial⟩ (fun _ => ?_)
      have r := Nat.mod_lt a z
      rw [nJ_r (by omega) (by omega)]
      exact ih f b (a % b) (by omega) hb2 (by omega) (by rw [Nat.gcd_comm b, ← Nat.gcd_rec, Nat.gcd_comm]; exact e)
theorem lss_q {f u d : Nat} {h : xh_H} (hu : u < 2 ^ 62) (hd : d < 2 ^ 62) (hq : a_rq a_tb h) : xq f xi_X10_lessen xmi_X10_lessen 0 [(0, .ref 39), (1, .long (nJ u)), (3, .long (nJ d))] [] h (fun v h' => v = none ∧ fx fN L36 h h' ∧ xg 0 h'.2.2.1 39 36 = (if u = 0 then 0 else nJ (u / Nat.gcd u d)) ∧ xg 0 h'.2.2.1 39 37 = (if u = 0 then 1 else nJ (d / Nat.gcd u d))) := by
  refine xq_n 6 [0, 1, 3, 5, 7] [(0, .ref 39), (1, .long (nJ u)), (3, .long (nJ d)), (5, .long (nJ u)), (7, .long (nJ d))] [] h [] 60 hq rfl trivial (fun _ => ?_)
  exact lss_l hu hd hq (d + 1) f u d (by omega) hu hd rfl
/-- behind a share -/
def shP (W : Nat → Bool) (m a w : Nat) (h : xh_H) (v : Option Value) (h' : xh_H) : Prop := v = none ∧ fx fN L36 h h' ∧ xg 0 h'.2.2.1 39 36 = shV W m a w false ∧ xg 0 h'.2.2.1 39 37 = shV W m a w true
section
variable {W : Nat → Bool} {m : Nat} {h : xh_H}
theorem lsp_q {f a w d : Nat} (m12 : m ≤ 12) (ha : a < m) (hd : d = if dnS W m w = 0 then 1 else dnS W m w) (hq : a_rq a_tb h) : xq f xi_X10_lessen xmi_X10_lessen 0 [(0, .ref 39), (1, .long (nJ (upS W m a w))), (3, .long (nJ d))] [] h (shP W m a w h) := by
  have ub := up_b (W := W) (w := w) m12 ha
  have db := dn_b (W := W) (w := w) m12
  have d2 : d < 2 ^ 62 := by rw [hd]; split <;> omega
  refine xq_mono (lss_q (by omega) d2 hq) (fun v h' e => ?_)
  obtain ⟨e1, e2, e3, e4⟩ := e
  refine ⟨e1, e2, ?_, ?_⟩
  · rw [e3]
    unfold shV
    by_cases z : upS W m a w = 0
    · rw [if_pos z, if_pos z]; rfl
    · rw [if_neg z, if_neg z, hd, if_neg (dn_p m12 ha z)]; rfl
  · rw [e4]
    unfold shV
    by_cases z : upS W m a w = 0
    · rw [if_pos z, if_pos z]; rfl
    · rw [if_neg z, if_neg z, hd, if_neg (dn_p m12 ha z)]; rfl
set_option maxRecDepth 100000 in
set_option maxHeartbeats 4000000 in
/-- X10.shareOfSets -/
theorem ss_l {a : Nat} (A : RA W m h) (m12 : m ≤ 12) (ha : a < m) (hq : a_rq a_tb h) : ∀ (n f i : Nat), i + n = m → xq f xi_X10_shareOfSets xmi_X10_shareOfSets 5 [(0, .ref 39), (1, .int (nI a)), (2, .long (nJ (sm (fun k => cnt (tw W k) (2 ^ m)) i))), (4, .int (nI i))] [] h (shP W m a 0 h) := by
  have p12 : 2 ^ m ≤ 4096 := show 2 ^ m ≤ 2 ^ 12 from Nat.pow_le_pow_right (by decide) m12
  intro n
  induction n with
  | zero =>
    intro f i hn
    have e : i = m := by omega
    subst e
    have db := dn_b (W := W) (w := 0) m12
    have db : sm (fun k => cnt (tw W k) (2 ^ i)) i < 2 ^ 40 := db
    have cl := cnt_le (P := tw W a) (2 ^ i)
    refine xq_n 33 [2] [(2, .long (nJ (sm (fun k => cnt (tw W k) (2 ^ i)) i)))] [.int (nI a), .ref 39, .ref 39] h [true] 60 hq rfl ⟨(show xe_c .ge (nI i) (xg 0 h.2.1 39 4) = true by rw [A.1]; exact nge_t (by omega) (by omega) (Nat.le_refl _)), trivial⟩ (fun _ => ?_)
    refine xq_run hq rfl rfl (tno_q A m12 ha hq) ?_
    rintro v h1 ⟨rfl, rfl⟩
    by_cases z : sm (fun k => cnt (tw W k) (2 ^ i)) i = 0
    · refine xq_n 48 [] [] [.long 1, .long (nI (cnt (tw W a) (2 ^ i))).toInt64, .ref 39] h [false] 60 hq rfl ⟨(show xe_c .ne (lg_cmp (nJ (sm (fun k => cnt (tw W k) (2 ^ i)) i)) 0) 0 = false by rw [xc_ne, nJ_z (by omega), decide_eq_true z]; rfl), trivial⟩ (fun _ => ?_)
      rw [nJ_i (by omega)]
      refine xq_run hq rfl rfl (lsp_q (W := W) (w := 0) (d := 1) m12 ha (if_pos z).symm hq) ?_
      rintro v h1 e
      obtain ⟨rfl, e⟩ := e
      exact xq_ret rfl rfl rfl ⟨rfl, e⟩
    · refine xq_n 48 [] [] [.long (nJ (sm (fun k => cnt (tw W k) (2 ^ i)) i)), .long (nI (cnt (tw W a) (2 ^ i))).toInt64, .ref 39] h [true] 60 hq rfl ⟨(show xe_c .ne (lg_cmp (nJ (sm (fun k => cnt (tw W k) (2 ^ i)) i)) 0) 0 = true by rw [xc_ne, nJ_z (by omega), decide_eq_false z]; rfl), trivial⟩ (fun _ => ?_)
      rw [nJ_i (by omega)]
      refine xq_run hq rfl rfl (lsp_q (W := W) (w := 0) m12 ha (if_neg z).symm hq) ?_
      rintro v h1 e
      obtain ⟨rfl, e⟩ := e
      exact xq_ret rfl rfl rfl ⟨rfl, e⟩
  | succ n ih =>
    intro f i hn
    have cl := cnt_le (P := tw W i) (2 ^ m)
    refine xq_n 18 [0, 1, 2, 4] [(0, .ref 39), (1, .int (nI a)), (2, .long (nJ (sm (fun k => cnt (tw W k) (2 ^ m)) i))), (4, .int (nI i))] [.int (nI i), .ref 39, .long (nJ (sm (fun k => cnt (tw W k) (2 ^ m)) i))] h [false] 60 hq rfl ⟨(show xe_c .ge (nI i) (xg 0 h.2.1 39 4) = false by rw [A.1]; exact nge_f (by omega) (by omega) (by omega)), trivial⟩ (fun _ => ?_)
    refine xq_run hq rfl rfl (tno_q A m12 (by omega) hq) ?_
    rintro v h1 ⟨rfl, rfl⟩
    refine xq_n 5 [0, 1, 2, 4] [(0, .ref 39), (1, .int (nI a)), (2, .long (nJ (sm (fun k => cnt (tw W k) (2 ^ m)) i) + (nI (cnt (tw W i) (2 ^ m))).toInt64)), (4, .int (nI i + Int32.ofInt 1))] [] h [] 60 hq rfl trivial (fun _ => ?_)
    rw [nI_1', nJ_i (by omega), nJ_a]
    exact ih f (i + 1) (by omega)
theorem ss_q {f a : Nat} (A : RA W m h) (m12 : m ≤ 12) (ha : a < m) (hq : a_rq a_tb h) : xq f xi_X10_shareOfSets xmi_X10_shareOfSets 0 [(0, .ref 39), (1, .int (nI a))] [] h (shP W m a 0 h) := by
  refine xq_n 5 [0, 1, 2, 4] [(0, .ref 39), (1, .int (nI a)), (2, .long 0), (4, .int (Int32.ofInt 0))] [] h [] 60 hq rfl trivial (fun _ => ?_)
  exact ss_l A m12 ha hq m f 0 (by omega)
set_option maxRecDepth 100000 in
set_option maxHeartbeats 4000000 in
/-- X10.shareOfOrders -/
theorem so_l {a : Nat} (A : RA W m h) (m12 : m ≤ 12) (ha : a < m) (hq : a_rq a_tb h) : ∀ (n f s : Nat), s + n = 2 ^ m → xq f xi_X10_shareOfOrders xmi_X10_shareOfOrders 5 [(0, .ref 39), (1, .int (nI a)), (2, .long (nJ (sm (tOr W m a) s))), (4, .int (nI s))] [] h (shP W m a 1 h) := by
  have p12 : 2 ^ m ≤ 4096 := show 2 ^ m ≤ 2 ^ 12 from Nat.pow_le_pow_right (by decide) m12
  intro n
  induction n with
  | zero =>
    intro f s sn
    have e : s = 2 ^ m := by omega
    subst e
    refine xq_n 86 [] [] [.int (xg 0 h.2.1 39 4), .long (nJ (sm (tOr W m a) (2 ^ m))), .ref 39] h [true] 60 hq rfl ⟨rgt A m12, trivial⟩ (fun _ => ?_)
    rw [A.1]
    refine xq_run hq rfl rfl (od_q m12 hq) ?_
    rintro v h1 ⟨rfl, rfl⟩
    refine xq_run hq rfl rfl (lsp_q (W := W) (w := 1) (d := fc m) m12 ha (if_neg (Nat.ne_of_gt (fc_l m12).2)).symm hq) ?_
    rintro v h1 e
    obtain ⟨rfl, e⟩ := e
    exact xq_ret rfl rfl rfl ⟨rfl, e⟩
  | succ n ih =>
    intro f s sn
    have hs : s < 2 ^ m := by omega
    have g0 := rgf A m12 hs
    have g1 := bn (rb0 m12 hs ha)
    have g2 := bn (rw0 A m12 hs)
    have g3 := be' (rw1 A m12 hs ha)
    have g := ih f (s + 1) (by omega)
    rw [show sm (tOr W m a) (s + 1) = sm (tOr W m a) s + tOr W m a s from rfl] at g
    have no : tw W a s = false → xq f xi_X10_shareOfOrders xmi_X10_shareOfOrders 5 [(0, .ref 39), (1, .int (nI a)), (2, .long (nJ (sm (tOr W m a) s))), (4, .int (nI s + Int32.ofInt 1))] [] h (shP W m a 1 h) := fun z => by
      rw [show tOr W m a s = 0 from if_neg (by rw [z]; decide), Nat.add_zero] at g
      rw [nI_1']
      exact g
    cases c1 : s.testBit a with
    | true =>
      rw [c1] at g1
      refine xq_n 5 [0, 1, 2, 4] [(0, .ref 39), (1, .int (nI a)), (2, .long (nJ (sm (tOr W m a) s))), (4, .int (nI s + Int32.ofInt 1))] [] h [false, true] 60 hq rfl ⟨g0, g1, trivial⟩ (fun _ => ?_)
      exact no (by unfold tw; rw [c1]; rfl)
    | false =>
      rw [c1] at g1
      cases c2 : W s with
      | true =>
        rw [c2] at g2
        refine xq_n 5 [0, 1, 2, 4] [(0, .ref 39), (1, .int (nI a)), (2, .long (nJ (sm (tOr W m a) s))), (4, .int (nI s + Int32.ofInt 1))] [] h [false, false, true] 60 hq rfl ⟨g0, g1, g2, trivial⟩ (fun _ => ?_)
        exact no (by unfold tw; rw [c1, c2]; rfl)
      | false =>
        rw [c2] at g2
        cases c3 : W (s ||| 2 ^ a) with
        | false =>
          rw [c3] at g3
          refine xq_n 5 [0, 1, 2, 4] [(0, .ref 39), (1, .int (nI a)), (2, .long (nJ (sm (tOr W m a) s))), (4, .int (nI s + Int32.ofInt 1))] [] h [false, false, false, true] 60 hq rfl ⟨g0, g1, g2, g3, trivial⟩ (fun _ => ?_)
          exact no (by unfold tw; rw [c1, c2, c3]; rfl)
        | true =>
          rw [c3] at g3
          have c : tw W a s = true := by unfold tw; rw [c1, c2, c3]; rfl
          have sl := sz_tw m12 hs ha c
          rw [show tOr W m a s = fc (sz s) * fc (m - 1 - sz s) from if_pos c] at g
          refine xq_n 50 [0, 1, 2, 4] [(0, .ref 39), (1, .int (nI a)), (2, .long (nJ (sm (tOr W m a) s))), (4, .int (nI s))] [.int (nI s), .long (nJ (sm (tOr W m a) s))] h [false, false, false, false] 60 hq rfl ⟨g0, g1, g2, g3, trivial⟩ (fun _ => ?_)
          refine xq_run hq rfl rfl (rso_q (by omega) hq) ?_
          rintro v h1 ⟨rfl, rfl⟩
          refine xq_run hq rfl rfl (od_q (by omega) hq) ?_
          rintro v h1 ⟨rfl, rfl⟩
          refine xq_n 64 [0, 1, 2, 4] [(0, .ref 39), (1, .int (nI a)), (2, .long (nJ (sm (tOr W m a) s))), (4, .int (nI s))] [.int (nI s), .int (xg 0 h.2.1 39 4 - Int32.ofInt 1), .long (nJ (fc (sz s))), .long (nJ (sm (tOr W m a) s))] h [] 60 hq rfl trivial (fun _ => ?_)
          rw [A.1, show nI m - Int32.ofInt 1 = nI (m - 1) from nI_sub (a := m) (b := 1) (by omega)]
          refine xq_run hq rfl rfl (rso_q (by omega) hq) ?_
          rintro v h1 ⟨rfl, rfl⟩
          refine xq_n 68 [0, 1, 2, 4] [(0, .ref 39), (1, .int (nI a)), (2, .long (nJ (sm (tOr W m a) s))), (4, .int (nI s))] [.int (nI (m - 1) - nI (sz s)), .long (nJ (fc (sz s))), .long (nJ (sm (tOr W m a) s))] h [] 60 hq rfl trivial (fun _ => ?_)
          rw [nI_sub (by omega)]
          refine xq_run hq rfl rfl (od_q (by omega) hq) ?_
          rintro v h1 ⟨rfl, rfl⟩
          refine xq_n 5 [0, 1, 2, 4] [(0, .ref 39), (1, .int (nI a)), (2, .long (nJ (sm (tOr W m a) s) + nJ (fc (sz s)) * nJ (fc (m - 1 - sz s)))), (4, .int (nI s + Int32.ofInt 1))] [] h [] 60 hq rfl trivial (fun _ => ?_)
          rw [nI_1', nJ_m, nJ_a]
          exact g
theorem so_q {f a : Nat} (A : RA W m h) (m12 : m ≤ 12) (ha : a < m) (hq : a_rq a_tb h) : xq f xi_X10_shareOfOrders xmi_X10_shareOfOrders 0 [(0, .ref 39), (1, .int (nI a))] [] h (shP W m a 1 h) := by
  refine xq_n 5 [0, 1, 2, 4] [(0, .ref 39), (1, .int (nI a)), (2, .long 0), (4, .int (Int32.ofInt 0))] [] h [] 60 hq rfl trivial (fun _ => ?_)
  exact so_l A m12 ha hq (2 ^ m) f 0 (by omega)
set_option maxRecDepth 100000 in
set_option maxHeartbeats 4000000 in
/-- X10.shareOfLeast -/
theorem sl_l {a : Nat} (A : RA W m h) (m12 : m ≤ 12) (ha : a < m) (hq : a_rq a_tb h) : ∀ (n f s : Nat), s + n = 2 ^ m → xq f xi_X10_shareOfLeast xmi_X10_shareOfLeast 8 [(0, .ref 39), (1, .int (nI a)), (2, .long (nJ (sm (tLe W m a) s))), (4, .long (nJ (cnt (mi W m false) s))), (6, .int (nI s))] [] h (shP W m a 2 h) := by
  have p12 : 2 ^ m ≤ 4096 := show 2 ^ m ≤ 2 ^ 12 from Nat.pow_le_pow_right (by decide) m12
  intro n
  induction n with
  | zero =>
    intro f s sn
    have e : s = 2 ^ m := by omega
    subst e
    have cl := cnt_le (P := mi W m false) (2 ^ m)
    by_cases z : cnt (mi W m false) (2 ^ m) = 0
    · refine xq_n 83 [] [] [.long 1, .long (nJ (sm (tLe W m a) (2 ^ m))), .ref 39] h [true, false] 60 hq rfl ⟨rgt A m12, (show xe_c .ne (lg_cmp (nJ (cnt (mi W m false) (2 ^ m))) 0) 0 = false by rw [xc_ne, nJ_z (by omega), decide_eq_true z]; rfl), trivial⟩ (fun _ => ?_)
      refine xq_run hq rfl rfl (lsp_q (W := W) (w := 2) (d := 1) m12 ha (if_pos (show 27720 * cnt (mi W m false) (2 ^ m) = 0 by omega)).symm hq) ?_
      rintro v h1 e
      obtain ⟨rfl, e⟩ := e
      exact xq_ret rfl rfl rfl ⟨rfl, e⟩
    · refine xq_n 83 [] [] [.long (27720 * nJ (cnt (mi W m false) (2 ^ m))), .long (nJ (sm (tLe W m a) (2 ^ m))), .ref 39] h [true, true] 60 hq rfl ⟨rgt A m12, (show xe_c .ne (lg_cmp (nJ (cnt (mi W m false) (2 ^ m))) 0) 0 = true by rw [xc_ne, nJ_z (by omega), decide_eq_false z]; rfl), trivial⟩ (fun _ => ?_)
      rw [show (27720 : Int64) = nJ 27720 from rfl, nJ_m]
      refine xq_run hq rfl rfl (lsp_q (W := W) (w := 2) (d := 27720 * cnt (mi W m false) (2 ^ m)) m12 ha (if_neg (show ¬ 27720 * cnt (mi W m false) (2 ^ m) = 0 by omega)).symm hq) ?_
      rintro v h1 e
      obtain ⟨rfl, e⟩ := e
      exact xq_ret rfl rfl rfl ⟨rfl, e⟩
  | succ n ih =>
    intro f s sn
    have hs : s < 2 ^ m := by omega
    have g := ih f (s + 1) (by omega)
    rw [show sm (tLe W m a) (s + 1) = sm (tLe W m a) s + tLe W m a s from rfl] at g
    refine xq_n 20 [0, 1, 2, 4, 6] [(0, .ref 39), (1, .int (nI a)), (2, .long (nJ (sm (tLe W m a) s))), (4, .long (nJ (cnt (mi W m false) s))), (6, .int (nI s))] [.int (nI s), .ref 39] h [false] 60 hq rfl ⟨rgf A m12 hs, trivial⟩ (fun _ => ?_)
    refine xq_run hq rfl rfl (rle_q A m12 hs hq) ?_
    rintro v h1 ⟨rfl, rfl⟩
    cases c : mi W m false s with
    | false =>
      rw [show tLe W m a s = 0 from if_neg (by rw [c]; decide), Nat.add_zero, cnt_f c] at g
      refine xq_n 8 [0, 1, 2, 4, 6] [(0, .ref 39), (1, .int (nI a)), (2, .long (nJ (sm (tLe W m a) s))), (4, .long (nJ (cnt (mi W m false) s))), (6, .int (nI s + Int32.ofInt 1))] [] h [false] 60 hq rfl ⟨rfl, trivial⟩ (fun _ => ?_)
      rw [nI_1']
      exact g
    | true =>
      rw [cnt_t c, ← nJ_a (a := cnt (mi W m false) s) (b := 1)] at g
      have eb := rb0 m12 hs ha
      cases c2 : s.testBit a with
      | false =>
        rw [show tLe W m a s = 0 by unfold tLe; rw [if_pos c, if_neg (by rw [c2]; decide)], Nat.add_zero] at g
        refine xq_n 8 [0, 1, 2, 4, 6] [(0, .ref 39), (1, .int (nI a)), (2, .long (nJ (sm (tLe W m a) s))), (4, .long (nJ (cnt (mi W m false) s) + 1)), (6, .int (nI s + Int32.ofInt 1))] [] h [true, true] 60 hq rfl ⟨rfl, (show xe_c .ne ((nI s >>> (nI a &&& 31)) &&& Int32.ofInt 1) (Int32.ofInt 1) = true by rw [eb, c2]; rfl), trivial⟩ (fun _ => ?_)
        rw [nI_1']
        exact g
      | true =>
        have s1 := sz_1 (show a < 12 by omega) c2
        have s2 := sz_le (s := s)
        rw [show tLe W m a s = 27720 / sz s by unfold tLe; rw [if_pos c, if_pos c2]] at g
        refine xq_n 51 [0, 1, 2, 4, 6] [(0, .ref 39), (1, .int (nI a)), (2, .long (nJ (sm (tLe W m a) s))), (4, .long (nJ (cnt (mi W m false) s) + 1)), (6, .int (nI s))] [.int (nI s), .long 27720, .long (nJ (sm (tLe W m a) s))] h [true, false] 60 hq rfl ⟨rfl, (show xe_c .ne ((nI s >>> (nI a &&& 31)) &&& Int32.ofInt 1) (Int32.ofInt 1) = false by rw [eb, c2]; rfl), trivial⟩ (fun _ => ?_)
        refine xq_run hq rfl rfl (rso_q (by omega) hq) ?_
        rintro v h1 ⟨rfl, rfl⟩
        refine xq_n 8 [0, 1, 2, 4, 6] [(0, .ref 39), (1, .int (nI a)), (2, .long (nJ (sm (tLe W m a) s) + 27720 / (nI (sz s)).toInt64)), (4, .long (nJ (cnt (mi W m false) s) + 1)), (6, .int (nI s + Int32.ofInt 1))] [] h [] 60 hq rfl trivial (fun _ => ?_)
        rw [nI_1', nJ_i (by omega), show (27720 : Int64) = nJ 27720 from rfl, nJ_d (by omega) (by omega), nJ_a]
        exact g
theorem sl_q {f a : Nat} (A : RA W m h) (m12 : m ≤ 12) (ha : a < m) (hq : a_rq a_tb h) : xq f xi_X10_shareOfLeast xmi_X10_shareOfLeast 0 [(0, .ref 39), (1, .int (nI a))] [] h (shP W m a 2 h) := by
  refine xq_n 8 [0, 1, 2, 4, 6] [(0, .ref 39), (1, .int (nI a)), (2, .long 0), (4, .long 0), (6, .int (Int32.ofInt 0))] [] h [] 60 hq rfl trivial (fun _ => ?_)
  exact sl_l A m12 ha hq (2 ^ m) f 0 (by omega)
end
section
variable {mem sc : Nat} {FR RW : Nat → Int32} {d : Int32} {h : xh_H}
/-- share answers these -/
def shG (mem : Nat) (x w z : Int32) : Bool := isM x mem && (decide ((Int32.ofInt 0).toInt ≤ w.toInt ∧ w.toInt ≤ (Int32.ofInt 2).toInt) && decide ((Int32.ofInt 0).toInt ≤ z.toInt ∧ z.toInt ≤ (Int32.ofInt 1).toInt))
set_option maxRecDepth 100000 in
set_option maxHeartbeats 4000000 in
/-- X10.share -/
theorem sh10_q {f : Nat} {x w z : Int32} (m12 : mem ≤ 12) (e4 : xg 0 h.2.1 39 4 = nI mem) (e33 : xg 0 h.2.1 39 33 = nI sc) (sc8 : sc ≤ 8) (e3 : xg 0 h.2.1 39 3 = d) (hF : ∀ k, k < sc → xg 0 h.2.1 51 k = FR k) (hT : ∀ k, k < sc → (xg 0 h.2.1 52 k).toInt ≤ 999) (hR : ∀ k s, k < sc → s < 2 ^ mem → ∃ b : Bool, RW (4096 * k + s) = bl b ∧ xg 0 h.2.1 44 (4096 * k + s) = bl b) (hq : a_rq a_tb h) : xq f xi_X10_share xmi_X10_share 0 [(0, .ref 39), (1, .int x), (2, .int w), (3, .int z)] [] h (fun v h' => (shG mem x w z = true → xg 0 h'.2.1 39 0 = 0 ∧ v = some (.long (shV (cvB FR RW mem sc d) mem x.toInt.toNat w.toInt.toNat (xe_c .ne z 0)))) ∧ (shG mem x w z = false → xg 0 h'.2.1 39 0 = 1) ∧ xg 0 h'.2.2.1 71 0 = xg 0 h.2.2.1 71 0) := by
  have bad : shG mem x w z = false → ∀ lv, xq f xi_X10_share xmi_X10_share 26 ((0, .ref 39) :: lv) [] h (fun v h' => (shG mem x w z = true → xg 0 h'.2.1 39 0 = 0 ∧ v = some (.long (shV (cvB FR RW mem sc d) mem x.toInt.toNat w.toInt.toNat (xe_c .ne z 0)))) ∧ (shG mem x w z = false → xg 0 h'.2.1 39 0 = 1) ∧ xg 0 h'.2.2.1 71 0 = xg 0 h.2.2.1 71 0) := fun b lv => by
    refine xq_n 27 [] [] [.ref 39] h [] 60 hq rfl trivial (fun _ => ?_)
    refine xq_run (Q1 := fun v h' => v = some (.int (Int32.ofInt 0)) ∧ xh_ui h 39 0 (Int32.ofInt 1) = h') hq rfl rfl ?_ ?_
    · refine xq_n 6 [] [] [.int (Int32.ofInt 0)] (xh_ui h 39 0 (Int32.ofInt 1)) [] 60 hq rfl trivial (fun _ => ?_)
      exact xq_ret rfl rfl rfl ⟨rfl, rfl⟩
    rintro v h1 ⟨rfl, rfl⟩
    have hq : a_rq a_tb (xh_ui h 39 0 (Int32.ofInt 1)) := a_rq_ui hq
    refine xq_n 31 [] [] [.long (Int32.ofInt 0).toInt64] (xh_ui h 39 0 (Int32.ofInt 1)) [] 60 hq rfl trivial (fun _ => ?_)
    exact xq_ret rfl rfl rfl ⟨fun z => (by rw [b] at z; cases z), fun _ => gx_s, rfl⟩
  refine xq_n 2 [0, 1, 2, 3] [(0, .ref 39), (1, .int x), (2, .int w), (3, .int z)] [.int x, .ref 39] h [] 60 hq rfl trivial (fun _ => ?_)
  refine xq_run hq rfl rfl (mem10_q (z := nI mem) e4 hq) ?_
  rintro v h1 ⟨rfl, rfl⟩
  cases c1 : (!xe_c .lt x 0 && !xe_c .ge x (nI mem)) with
  | false =>
    refine xq_n 26 [0] [(0, .ref 39)] [] h [true] 60 hq rfl ⟨rfl, trivial⟩ (fun _ => ?_)
    exact bad (by unfold shG isM; rw [c1]; rfl) []
  | true =>
    refine xq_n 11 [0, 1, 2, 3] [(0, .ref 39), (1, .int x), (2, .int w), (3, .int z)] [.int (Int32.ofInt 2), .int (Int32.ofInt 0), .int w] h [false] 60 hq rfl ⟨rfl, trivial⟩ (fun _ => ?_)
    refine xq_run hq rfl rfl (isIn_q hq) ?_
    rintro v h2 ⟨rfl, rfl⟩
    cases c2 : decide ((Int32.ofInt 0).toInt ≤ w.toInt ∧ w.toInt ≤ (Int32.ofInt 2).toInt) with
    | false =>
      refine xq_n 26 [0] [(0, .ref 39)] [] h [true] 60 hq rfl ⟨rfl, trivial⟩ (fun _ => ?_)
      exact bad (by unfold shG; rw [c2, Bool.false_and, Bool.and_false]) []
    | true =>
      refine xq_n 20 [0, 1, 2, 3] [(0, .ref 39), (1, .int x), (2, .int w), (3, .int z)] [.int (Int32.ofInt 1), .int (Int32.ofInt 0), .int z] h [false] 60 hq rfl ⟨rfl, trivial⟩ (fun _ => ?_)
      refine xq_run hq rfl rfl (isIn_q hq) ?_
      rintro v h2 ⟨rfl, rfl⟩
      cases c3 : decide ((Int32.ofInt 0).toInt ≤ z.toInt ∧ z.toInt ≤ (Int32.ofInt 1).toInt) with
      | false =>
        refine xq_n 26 [0] [(0, .ref 39)] [] h [false] 60 hq rfl ⟨rfl, trivial⟩ (fun _ => ?_)
        exact bad (by unfold shG; rw [c3, Bool.and_false, Bool.and_false]) []
      | true =>
        have gG : shG mem x w z = true := by unfold shG isM; rw [c1, c2, c3]; rfl
        rw [gG]
        obtain ⟨a, rfl, al, ea⟩ := mb_n m12 c1
        rw [ea]
        have w0 : (0 : Int) ≤ w.toInt := (of_decide_eq_true c2).1
        have w2 : w.toInt ≤ (2 : Int) := (of_decide_eq_true c2).2
        obtain ⟨wn, ew, wl, -⟩ := a_nk (x := w) (m := 2) w0 w2
        rw [ew, show (nI wn).toInt.toNat = wn by rw [nI_toInt (by omega)]; rfl]
        refine xq_n 38 [0, 1, 2, 3] [(0, .ref 39), (1, .int (nI a)), (2, .int (nI wn)), (3, .int z)] [.ref 39] (xh_ui h 39 0 (Int32.ofInt 0)) [true] 60 hq rfl ⟨rfl, trivial⟩ (fun _ => ?_)
        have hq : a_rq a_tb (xh_ui h 39 0 (Int32.ofInt 0)) := a_rq_ui hq
        refine xq_run hq rfl rfl (ly_q m12 e4 e33 sc8 e3 hF hT hR hq) ?_
        rintro v h1 ⟨rfl, g1, A⟩
        have hq := fx_q g1 hq
        generalize cvB FR RW mem sc d = W at A ⊢
        have t0 : xg 0 h1.2.1 39 0 = 0 := (fx_i g1 rfl).trans gx_s
        have fin : ∀ lw h2, fx fN L36 h1 h2 → xg 0 h2.2.2.1 39 36 = shV W mem a wn false → xg 0 h2.2.2.1 39 37 = shV W mem a wn true → xq f xi_X10_share xmi_X10_share 71 ((0, .ref 39) :: (3, .int z) :: lw) [] h2 (fun v h' => (true = true → xg 0 h'.2.1 39 0 = 0 ∧ v = some (.long (shV W mem a wn (xe_c .ne z 0)))) ∧ (true = false → xg 0 h'.2.1 39 0 = 1) ∧ xg 0 h'.2.2.1 71 0 = xg 0 h.2.2.1 71 0) := fun lw h2 g2 e36 e37 => by
          have hq2 := fx_q g2 hq
          have e72 : xg 0 h2.2.2.1 71 0 = xg 0 h.2.2.1 71 0 := (fx_l (c := 71) (k := 0) g2 rfl).trans (show xg 0 h1.2.2.1 71 0 = xg 0 (xh_ui h 39 0 (Int32.ofInt 0)).2.2.1 71 0 from fx_l g1 rfl)
          cases c : xe_c .ne z 0 with
          | true =>
            refine xq_n 86 [] [] [.long (xg 0 h2.2.2.1 39 37)] h2 [true] 60 hq2 rfl ⟨c, trivial⟩ (fun _ => ?_)
            exact xq_ret rfl rfl rfl ⟨fun _ => ⟨(fx_i g2 rfl).trans t0, by rw [e37]⟩, fun z => (by cases z), e72⟩
          | false =>
            refine xq_n 86 [] [] [.long (xg 0 h2.2.2.1 39 36)] h2 [false] 60 hq2 rfl ⟨c, trivial⟩ (fun _ => ?_)
            exact xq_ret rfl rfl rfl ⟨fun _ => ⟨(fx_i g2 rfl).trans t0, by rw [e36]⟩, fun z => (by cases z), e72⟩
        match wn, wl with
        | 0, _ =>
          refine xq_n 47 [0, 3] [(0, .ref 39), (3, .int z)] [.int (nI a), .ref 39] h1 [false] 60 hq rfl ⟨rfl, trivial⟩ (fun _ => ?_)
          refine xq_run hq rfl rfl (ss_q A m12 al hq) ?_
          rintro v h2 ⟨rfl, g2, e36, e37⟩
          refine xq_n 71 [0, 3] [(0, .ref 39), (3, .int z)] [] h2 [] 60 (fx_q g2 hq) rfl trivial (fun _ => ?_)
          exact fin [] h2 g2 e36 e37
        | 1, _ =>
          refine xq_n 60 [0, 3] [(0, .ref 39), (3, .int z)] [.int (nI a), .ref 39] h1 [true, false] 60 hq rfl ⟨rfl, rfl, trivial⟩ (fun _ => ?_)
          refine xq_run hq rfl rfl (so_q A m12 al hq) ?_
          rintro v h2 ⟨rfl, g2, e36, e37⟩
          refine xq_n 71 [0, 3] [(0, .ref 39), (3, .int z)] [] h2 [] 60 (fx_q g2 hq) rfl trivial (fun _ => ?_)
          exact fin [] h2 g2 e36 e37
        | 2, _ =>
          refine xq_n 68 [0, 3] [(0, .ref 39), (3, .int z)] [.int (nI a), .ref 39] h1 [true, true] 60 hq rfl ⟨rfl, rfl, trivial⟩ (fun _ => ?_)
          refine xq_run hq rfl rfl (sl_q A m12 al hq) ?_
          rintro v h2 ⟨rfl, g2, e36, e37⟩
          exact fin [] h2 g2 e36 e37
        | wn + 3, wl => omega
end
end XSX
end
section
section XWA
/-- with a it does no less than with b -/
def geb (W : Nat → Bool) (m a b : Nat) : Bool := aln (gp W a b) (2 ^ m)
theorem geb_g {W : Nat → Bool} {m a b s : Nat} (h : geb W m a b = true) (hs : s < 2 ^ m) (sa : s.testBit a = false) (sb : s.testBit b = false) (w : W (s ||| 2 ^ b) = true) : W (s ||| 2 ^ a) = true := by
  have g := aln_g h s hs
  unfold gp at g
  rw [sa, sb, w] at g
  cases z : W (s ||| 2 ^ a) with
  | true => rfl
  | false => rw [z] at g; cases g
theorem geb_i {W : Nat → Bool} {m a b : Nat} (h : ∀ s, s < 2 ^ m → s.testBit a = false → s.testBit b = false → W (s ||| 2 ^ b) = true → W (s ||| 2 ^ a) = true) : geb W m a b = true := aln_i (fun s hs => by
  unfold gp
  cases z1 : s.testBit a with
  | true => rfl
  | false =>
    cases z2 : s.testBit b with
    | true => rfl
    | false =>
      cases z3 : W (s ||| 2 ^ b) with
      | false => rfl
      | true => rw [h s hs z1 z2 z3]; rfl)
theorem geb_s {W : Nat → Bool} {m a : Nat} : geb W m a a = true := aln_i (fun _ _ => gp_s)
/-- .. is an order -/
theorem geb_t {W : Nat → Bool} {m a b c : Nat} (ha : a < m) (hc : c < m) (h1 : geb W m a b = true) (h2 : geb W m b c = true) : geb W m a c = true := by
  refine geb_i (fun s hs sa sc w => ?_)
  by_cases eac : a = c
  · rw [eac]; exact w
  cases sb : s.testBit b with
  | false => exact geb_g h1 hs sa sb (geb_g h2 hs sb sc w)
  | true =>
    have eab : ¬ a = b := fun e => by rw [e, sb] at sa; cases sa
    have ecb : ¬ c = b := fun e => by rw [e, sb] at sc; cases sc
    have tb : ∀ x : Nat, x ≠ b → ((rmb s b) ||| 2 ^ x) ||| 2 ^ b = s ||| 2 ^ x := fun x hx => Nat.eq_of_testBit_eq (fun i => by
      rw [Nat.testBit_or, Nat.testBit_or, Nat.testBit_or, Nat.testBit_two_pow, Nat.testBit_two_pow, rmb_tb]
      by_cases e : b = i
      · rw [← e, sb, decide_eq_true rfl]; simp
      · rw [decide_eq_false e]; simp)
    have bx : ∀ x i : Nat, x ≠ i → (i = b ∨ s.testBit i = false) → ((rmb s b) ||| 2 ^ x).testBit i = false := fun x i hx hi => by
      rw [Nat.testBit_or, Nat.testBit_two_pow, rmb_tb, decide_eq_false hx]
      rcases hi with e | e
      · rw [e, decide_eq_true rfl]; simp
      · rw [e]; rfl
    have w1 : W (((rmb s b) ||| 2 ^ c) ||| 2 ^ b) = true := by rw [tb c ecb]; exact w
    have w2 := geb_g h1 (or_p (rmb_lt hs) hc) (bx c a (fun e => eac e.symm) (Or.inr sa)) (bx c b ecb (Or.inl rfl)) w1
    have cm : ((rmb s b) ||| 2 ^ c) ||| 2 ^ a = ((rmb s b) ||| 2 ^ a) ||| 2 ^ c := by rw [Nat.or_assoc, Nat.or_comm (2 ^ c), ← Nat.or_assoc]
    rw [cm] at w2
    have w3 := geb_g h2 (or_p (rmb_lt hs) ha) (bx a b eab (Or.inl rfl)) (bx a c eac (Or.inr sc)) w2
    rw [tb a eab] at w3
    exact w3
def alk (W : Nat → Bool) (m a b : Nat) : Bool := geb W m a b && geb W m b a
def stg (W : Nat → Bool) (m a b : Nat) : Bool := geb W m a b && !geb W m b a
/-- of any two one does no less -/
def Ln (W : Nat → Bool) (m : Nat) : Prop := ∀ a b, a < m → b < m → geb W m a b = false → geb W m b a = true
theorem Ln_of {W : Nat → Bool} {m : Nat} (h : lnd W m = true) : Ln W m := by
  intro a b ha hb z
  have key : ∀ a b, b < a → a < m → ge1 W m a b = true := fun a b h1 h2 => aln_g (aln_g h a h2) b h1
  rcases Nat.lt_trichotomy a b with l | l | l
  · have := key b a l hb
    unfold ge1 at this
    have z : aln (gp W a b) (2 ^ m) = false := z
    rw [z, Bool.or_false] at this
    exact this
  · rw [l]; exact geb_s
  · have := key a b l ha
    unfold ge1 at this
    have z : aln (gp W a b) (2 ^ m) = false := z
    rw [z, Bool.false_or] at this
    exact this
section
variable {W : Nat → Bool} {m : Nat}
theorem alk_s {a : Nat} : alk W m a a = true := by unfold alk; rw [geb_s]; rfl
theorem alk_c {a b : Nat} : alk W m a b = alk W m b a := Bool.and_comm _ _
theorem alk_t {a b c : Nat} (ha : a < m) (hc : c < m) (h1 : alk W m a b = true) (h2 : alk W m b c = true) : alk W m a c = true := by
  unfold alk at *
  rw [Bool.and_eq_true] at *
  exact ⟨geb_t ha hc h1.1 h2.1, geb_t hc ha h2.2 h1.2⟩
/-- the least of its kind -/
def isf (W : Nat → Bool) (m a : Nat) : Bool := aln (fun b => !alk W m a b) a
/-- the least below n -/
def lsw (P : Nat → Bool) : Nat → Nat
  | 0 => 0
  | n + 1 => if lsw P n < n then lsw P n else if P n = true then n else n + 1
theorem lsw_le {P : Nat → Bool} : ∀ n, lsw P n ≤ n := by
  intro n
  induction n with
  | zero => exact Nat.le_refl _
  | succ n ih => unfold lsw; split <;> (try split) <;> omega
theorem lsw_p {P : Nat → Bool} : ∀ n, lsw P n < n → P (lsw P n) = true := by
  intro n
  induction n with
  | zero => intro h; exact absurd h (Nat.not_lt_zero _)
  | succ n ih =>
    unfold lsw
    split
    · rename_i z; intro _; exact ih z
    · split
      · rename_i z; intro _; exact z
      · intro h; omega
theorem lsw_m {P : Nat → Bool} {k : Nat} (h : P k = true) : ∀ n, k < n → lsw P n ≤ k := by
  intro n
  induction n with
  | zero => intro h; exact absurd h (Nat.not_lt_zero _)
  | succ n ih =>
    intro hk
    have := lsw_le (P := P) n
    unfold lsw
    by_cases z : k = n
    · subst z
      split
      · omega
      · exact Nat.le_refl _
    · have := ih (by omega)
      rw [if_pos (by omega)]
      exact this
def rp (W : Nat → Bool) (m a : Nat) : Nat := lsw (fun b => alk W m a b) m
def cl (W : Nat → Bool) (m a : Nat) : Nat := cnt (isf W m) (rp W m a)
def nC (W : Nat → Bool) (m : Nat) : Nat := cnt (isf W m) m
def fs (W : Nat → Bool) (m c : Nat) : Nat := lsw (fun a => isf W m a && decide (cnt (isf W m) a = c)) m
def str (W : Nat → Bool) (m a : Nat) : Nat := cnt (fun b => isf W m b && stg W m a b) m
def sg (W : Nat → Bool) (m c : Nat) : Nat := str W m (fs W m c)
def szc (W : Nat → Bool) (m c : Nat) : Nat := cnt (fun a => decide (cl W m a = c)) m
theorem rp_1 {a : Nat} (ha : a < m) : rp W m a ≤ a ∧ alk W m a (rp W m a) = true := by
  have h := lsw_m (P := fun b => alk W m a b) (k := a) alk_s m ha
  exact ⟨h, lsw_p m (Nat.lt_of_le_of_lt h ha)⟩
theorem rp_f {a : Nat} (ha : a < m) : isf W m (rp W m a) = true := by
  obtain ⟨h1, h2⟩ := rp_1 (W := W) ha
  refine aln_i (fun b hb => ?_)
  cases z : alk W m (rp W m a) b with
  | false => rfl
  | true =>
    have := lsw_m (P := fun b => alk W m a b) (k := b) (alk_t ha (by omega) h2 z) m (by omega)
    have e : rp W m a = lsw (fun b => alk W m a b) m := rfl
    omega
theorem rp_e {a b : Nat} (ha : a < m) (hb : b < m) (h : alk W m a b = true) : rp W m a = rp W m b := by
  have g : ∀ a b, a < m → b < m → alk W m a b = true → rp W m a ≤ rp W m b := fun a b ha hb h => by
    obtain ⟨h1, h2⟩ := rp_1 (W := W) hb
    exact lsw_m (P := fun b => alk W m a b) (k := rp W m b) (alk_t ha (by omega) h h2) m (by omega)
  exact Nat.le_antisymm (g a b ha hb h) (g b a hb ha (by rw [alk_c]; exact h))
theorem rp_a {a b : Nat} (ha : a < m) (hb : b < m) (h : rp W m a = rp W m b) : alk W m a b = true := by
  obtain ⟨h1, h2⟩ := rp_1 (W := W) ha
  obtain ⟨h3, h4⟩ := rp_1 (W := W) hb
  rw [h] at h2
  exact alk_t ha hb h2 (by rw [alk_c]; exact h4)
theorem isf_r {a : Nat} (ha : a < m) (h : isf W m a = true) : rp W m a = a := by
  obtain ⟨h1, h2⟩ := rp_1 (W := W) ha
  by_cases z : rp W m a = a
  · exact z
  · have := aln_g h (rp W m a) (by omega)
    rw [h2] at this
    cases this
theorem cnt_in {P : Nat → Bool} {a b : Nat} (ha : P a = true) (hb : P b = true) (h : cnt P a = cnt P b) : a = b := by
  rcases Nat.lt_trichotomy a b with l | l | l
  · have := cnt_lt ha l; omega
  · exact l
  · have := cnt_lt hb l; omega
theorem cl_lt {a : Nat} (ha : a < m) : cl W m a < nC W m := cnt_lt (rp_f ha) (Nat.lt_of_le_of_lt (rp_1 ha).1 ha)
theorem cl_e {a b : Nat} (ha : a < m) (hb : b < m) : cl W m a = cl W m b ↔ alk W m a b = true := ⟨fun h => rp_a ha hb (cnt_in (rp_f ha) (rp_f hb) h), fun h => by unfold cl; rw [rp_e ha hb h]⟩
theorem fsq1 {c : Nat} (hc : c < nC W m) : fs W m c < m ∧ isf W m (fs W m c) = true ∧ cnt (isf W m) (fs W m c) = c := by
  obtain ⟨p, p1, p2, p3⟩ := cnt_sur m hc
  have h := lsw_m (P := fun a => isf W m a && decide (cnt (isf W m) a = c)) (k := p) (by rw [p2, decide_eq_true p3]; rfl) m p1
  have l : fs W m c < m := Nat.lt_of_le_of_lt h p1
  have g := lsw_p (P := fun a => isf W m a && decide (cnt (isf W m) a = c)) m l
  rw [Bool.and_eq_true] at g
  exact ⟨l, g.1, of_decide_eq_true g.2⟩
theorem fs_f {a : Nat} (ha : a < m) (h : isf W m a = true) : fs W m (cnt (isf W m) a) = a := by
  obtain ⟨h1, h2, h3⟩ := fsq1 (W := W) (m := m) (c := cnt (isf W m) a) (cnt_lt h ha)
  exact cnt_in h2 h h3
theorem cl_fs {c : Nat} (hc : c < nC W m) : cl W m (fs W m c) = c := by
  obtain ⟨h1, h2, h3⟩ := fsq1 hc
  unfold cl
  rw [isf_r h1 h2]
  exact h3
theorem fs_cl {a : Nat} (ha : a < m) : alk W m a (fs W m (cl W m a)) = true := by
  have h := fs_f (W := W) (Nat.lt_of_le_of_lt (rp_1 (W := W) ha).1 ha) (rp_f ha)
  unfold cl
  rw [h]
  exact (rp_1 ha).2
theorem cnt_su {P Q : Nat → Bool} : ∀ n, (∀ k, k < n → P k = true → Q k = true) → cnt P n ≤ cnt Q n := by
  intro n
  induction n with
  | zero => intro _; exact Nat.le_refl _
  | succ n ih =>
    intro h
    have := ih (fun k hk => h k (by omega))
    cases p : P n with
    | true => rw [cnt_t p, cnt_t (h n (by omega) p)]; omega
    | false =>
      rw [cnt_f p]
      have := cnt_m (P := Q) (show n ≤ n + 1 by omega)
      omega
theorem cnt_ss {P Q : Nat → Bool} {x : Nat} (px : P x = false) (qx : Q x = true) : ∀ n, x < n → (∀ k, k < n → P k = true → Q k = true) → cnt P n < cnt Q n := by
  intro n
  induction n with
  | zero => intro h; omega
  | succ n ih =>
    intro hx h
    by_cases z : x = n
    · subst z
      rw [cnt_f px, cnt_t qx]
      have := cnt_su x (fun k hk => h k (by omega))
      omega
    · have := ih (by omega) (fun k hk => h k (by omega))
      cases p : P n with
      | true => rw [cnt_t p, cnt_t (h n (by omega) p)]; omega
      | false =>
        rw [cnt_f p]
        have := cnt_m (P := Q) (show n ≤ n + 1 by omega)
        omega
theorem stg_i {a b : Nat} : stg W m a b = true ↔ geb W m a b = true ∧ geb W m b a = false := by
  unfold stg
  rw [Bool.and_eq_true, Bool.not_eq_true']
/-- alike ones are as strong, a stronger one is stronger -/
theorem str_a {a b : Nat} (ha : a < m) (hb : b < m) (h : alk W m a b = true) : str W m a = str W m b := by
  unfold alk at h
  rw [Bool.and_eq_true] at h
  have g : ∀ a b x, a < m → b < m → x < m → geb W m a b = true → geb W m b a = true → stg W m b x = true → stg W m a x = true := fun a b x ha hb hx h1 h2 h3 => by
    rw [stg_i] at *
    refine ⟨geb_t ha hx h1 h3.1, ?_⟩
    cases z : geb W m x a with
    | false => rfl
    | true =>
      have := geb_t hx hb z h1
      rw [h3.2] at this
      cases this
  refine cnt_c m (fun x hx => ?_)
  cases z : stg W m a x with
  | true => rw [g b a x hb ha hx h.2 h.1 z]
  | false =>
    cases y : stg W m b x with
    | false => rfl
    | true =>
      have := g a b x ha hb hx h.1 h.2 y
      rw [z] at this
      cases this
theorem str_s {a b : Nat} (ha : a < m) (hb : b < m) (h : stg W m a b = true) : str W m b < str W m a := by
  have h' := stg_i.mp h
  obtain ⟨r1, r2⟩ := rp_1 (W := W) hb
  have r3 := rp_f (W := W) hb
  unfold alk at r2
  rw [Bool.and_eq_true] at r2
  have rm : rp W m b < m := Nat.lt_of_le_of_lt r1 hb
  refine cnt_ss (x := rp W m b) ?_ ?_ m rm (fun x hx p => ?_)
  · have : stg W m b (rp W m b) = false := by unfold stg; rw [r2.2, Bool.not_true, Bool.and_false]
    rw [this, Bool.and_false]
  · have : stg W m a (rp W m b) = true := stg_i.mpr ⟨geb_t ha rm h'.1 r2.1, by
      cases z : geb W m (rp W m b) a with
      | false => rfl
      | true =>
        have := geb_t hb ha r2.1 z
        rw [h'.2] at this
        cases this⟩
    rw [r3, this]
    rfl
  · rw [Bool.and_eq_true] at p ⊢
    refine ⟨p.1, stg_i.mpr ?_⟩
    have q := stg_i.mp p.2
    refine ⟨geb_t ha hx h'.1 q.1, ?_⟩
    cases z : geb W m x a with
    | false => rfl
    | true =>
      have := geb_t hx hb z h'.1
      rw [q.2] at this
      cases this
theorem str_c {a : Nat} (ha : a < m) : str W m a < nC W m := by
  obtain ⟨r1, r2⟩ := rp_1 (W := W) ha
  unfold alk at r2
  rw [Bool.and_eq_true] at r2
  refine cnt_ss (x := rp W m a) ?_ (rp_f ha) m (Nat.lt_of_le_of_lt r1 ha) (fun x hx p => ?_)
  · have : stg W m a (rp W m a) = false := by unfold stg; rw [r2.2, Bool.not_true, Bool.and_false]
    rw [this, Bool.and_false]
  · rw [Bool.and_eq_true] at p
    exact p.1
theorem sg_cl {a : Nat} (ha : a < m) : sg W m (cl W m a) = str W m a := (str_a ha (fsq1 (cl_lt ha)).1 (fs_cl ha)).symm
theorem sg_lt {c : Nat} (hc : c < nC W m) : sg W m c < nC W m := str_c (fsq1 hc).1
theorem stg_l {a b : Nat} (L : Ln W m) (ha : a < m) (hb : b < m) : stg W m a b = decide (str W m b < str W m a) := by
  cases z : stg W m a b with
  | true => exact (decide_eq_true (str_s ha hb z)).symm
  | false =>
    refine (decide_eq_false (fun l => ?_)).symm
    cases y : geb W m a b with
    | true =>
      have y2 : geb W m b a = true := by
        cases q : geb W m b a with
        | true => rfl
        | false => rw [stg_i.mpr ⟨y, q⟩] at z; cases z
      have := str_a ha hb (by unfold alk; rw [y, y2]; rfl)
      omega
    | false =>
      have := str_s hb ha (stg_i.mpr ⟨L a b ha hb y, y⟩)
      omega
theorem str_i {a b : Nat} (L : Ln W m) (ha : a < m) (hb : b < m) (h : str W m a = str W m b) : alk W m a b = true := by
  have h1 := stg_l L ha hb
  have h2 := stg_l L hb ha
  rw [decide_eq_false (by omega)] at h1 h2
  unfold alk
  cases y : geb W m a b with
  | true =>
    cases q : geb W m b a with
    | true => rfl
    | false => rw [stg_i.mpr ⟨y, q⟩] at h1; cases h1
  | false =>
    rw [stg_i.mpr ⟨L a b ha hb y, y⟩] at h2
    cases h2
theorem sg_in {c c' : Nat} (L : Ln W m) (hc : c < nC W m) (hc' : c' < nC W m) (h : sg W m c = sg W m c') : c = c' := by
  have a := str_i L (fsq1 hc).1 (fsq1 hc').1 h
  have := (cl_e (fsq1 hc).1 (fsq1 hc').1).mpr a
  rw [cl_fs hc, cl_fs hc'] at this
  exact this
/-- into as many places, none twice: all are taken -/
theorem pig {C : Nat} {F : Nat → Nat} (into : ∀ i, i < C → F i < C) (inj : ∀ i j, i < C → j < C → F i = F j → i = j) : ∀ t, t < C → ∃ i, i < C ∧ F i = t := by
  intro t ht
  by_cases z : ∃ i, i < C ∧ F i = t
  · exact z
  · exfalso
    have e1 : sm (fun i => sm (fun j => if j = F i then 1 else 0) C) C = C := by
      have : ∀ n, n ≤ C → sm (fun i => sm (fun j => if j = F i then 1 else 0) C) n = n := by
        intro n
        induction n with
        | zero => intro _; rfl
        | succ n ih =>
          intro h
          show sm (fun i => sm (fun j => if j = F i then 1 else 0) C) n + sm (fun j => if j = F n then 1 else 0) C = n + 1
          rw [ih (by omega), sm_1, if_pos (into n (by omega))]
      exact this C (Nat.le_refl _)
    rw [sm_x] at e1
    have le1 : ∀ j, j < C → sm (fun i => if j = F i then 1 else 0) C ≤ if j = t then 0 else 1 := by
      intro j hj
      by_cases y : ∃ i, i < C ∧ F i = j
      · obtain ⟨i0, i1, i2⟩ := y
        rw [if_neg (fun e => z ⟨i0, i1, by omega⟩)]
        rw [sm_c (G := fun i => if i = i0 then 1 else 0) C (fun i hi => ?_), sm_1, if_pos i1]
        · exact Nat.le_refl _
        · by_cases w : i = i0
          · rw [if_pos w, if_pos (by rw [w, i2])]
          · rw [if_neg w, if_neg (fun e => w (inj i i0 hi i1 (by omega)))]
      · rw [sm_z C (fun i hi => if_neg (fun e => y ⟨i, hi, e.symm⟩))]
        exact Nat.zero_le _
    have tot : ∀ n, n ≤ C → sm (fun j => sm (fun i => if j = F i then 1 else 0) C) n ≤ (if t < n then n - 1 else n) := by
      intro n
      induction n with
      | zero => intro _; exact Nat.zero_le _
      | succ n ih =>
        intro h
        have a := ih (by omega)
        have b := le1 n (by omega)
        show sm (fun j => sm (fun i => if j = F i then 1 else 0) C) n + sm (fun i => if n = F i then 1 else 0) C ≤ _
        by_cases y : n = t
        · rw [if_pos y] at b
          rw [if_neg (by omega)] at a
          rw [if_pos (by omega)]
          omega
        · rw [if_neg y] at b
          by_cases w : t < n
          · rw [if_pos w] at a
            rw [if_pos (by omega)]
            omega
          · rw [if_neg w] at a
            rw [if_neg (by omega)]
            omega
    have := tot C (Nat.le_refl _)
    rw [if_pos ht] at this
    omega
theorem sg_su (L : Ln W m) : ∀ t, t < nC W m → ∃ c, c < nC W m ∧ sg W m c = t := pig (fun _ h => sg_lt h) (fun _ _ h1 h2 e => sg_in L h1 h2 e)
theorem nC_m : nC W m ≤ m := cnt_le m
theorem nC_1 (h : 1 ≤ m) : 1 ≤ nC W m := by
  have := cl_lt (W := W) (show 0 < m by omega)
  omega
/-- how many are of a kind, or as strong -/
theorem szc_s {c : Nat} (L : Ln W m) (hc : c < nC W m) : cnt (fun a => decide (str W m a = sg W m c)) m = szc W m c := cnt_c m (fun a ha => by
  by_cases z : cl W m a = c
  · rw [decide_eq_true z, decide_eq_true (by rw [← sg_cl ha, z])]
  · rw [decide_eq_false z, decide_eq_false (fun e => z (sg_in L (cl_lt ha) hc (by rw [sg_cl ha, e])))])
theorem szc_1 {c : Nat} (hc : c < nC W m) : 1 ≤ szc W m c := by
  have := cnt_lt (P := fun a => decide (cl W m a = c)) (a := fs W m c) (decide_eq_true (cl_fs hc)) (fsq1 hc).1
  unfold szc
  omega
theorem szc_m {c : Nat} : szc W m c ≤ m := cnt_le m
/-- all the members' weights -/
theorem wt_all {g : Nat → Nat} : sm (fun a => g (cl W m a)) m = sm (fun c => szc W m c * g c) (nC W m) := by
  have e1 : sm (fun a => g (cl W m a)) m = sm (fun a => sm (fun c => if c = cl W m a then g (cl W m a) else 0) (nC W m)) m := sm_c m (fun a ha => by rw [sm_1, if_pos (cl_lt ha)])
  rw [e1, sm_x]
  refine sm_c _ (fun c hc => ?_)
  have e2 : ∀ n, sm (fun a => if c = cl W m a then g (cl W m a) else 0) n = cnt (fun a => decide (cl W m a = c)) n * g c := by
    intro n
    induction n with
    | zero => rw [show cnt (fun a => decide (cl W m a = c)) 0 = 0 from rfl, Nat.zero_mul]; rfl
    | succ n ih =>
      show sm (fun a => if c = cl W m a then g (cl W m a) else 0) n + (if c = cl W m n then g (cl W m n) else 0) = _
      rw [ih]
      by_cases z : cl W m n = c
      · rw [cnt_t (decide_eq_true z), if_pos z.symm, z, Nat.succ_mul]
      · rw [cnt_f (decide_eq_false z), if_neg (fun e => z e.symm)]; rfl
  exact e2 m
end
end XWA
end
section
section XWB
/-- from n - 1 down to 0 -/
def dnf {S : Type} (F : Nat → S → S) : Nat → S → S
  | 0, st => st
  | n + 1, st => dnf F n (F n st)
theorem dnf_i {S : Type} {F : Nat → S → S} {st : S} : ∀ n, (∀ v, v < n → F v st = st) → dnf F n st = st := by
  intro n
  induction n with
  | zero => intro _; rfl
  | succ n ih => intro h; show dnf F n (F n st) = st; rw [h n (by omega)]; exact ih (fun v hv => h v (by omega))
theorem dnf_c {S : Type} {F G : Nat → S → S} : ∀ n st, (∀ v st, v < n → F v st = G v st) → dnf F n st = dnf G n st := by
  intro n
  induction n with
  | zero => intro st _; rfl
  | succ n ih => intro st h; show dnf F n (F n st) = dnf G n (G n st); rw [h n st (by omega)]; exact ih _ (fun v st hv => h v st (by omega))
theorem dnf_hi {S : Type} {F : Nat → S → S} {st : S} {k : Nat} : ∀ n, k ≤ n → (∀ v, k ≤ v → v < n → F v st = st) → dnf F n st = dnf F k st := by
  intro n
  induction n with
  | zero => intro h _; rw [show k = 0 by omega]
  | succ n ih =>
    intro h hv
    by_cases z : k = n + 1
    · rw [z]
    · show dnf F n (F n st) = _
      rw [hv n (by omega) (by omega)]
      exact ih (by omega) (fun v h1 h2 => hv v h1 (by omega))
/-- a weight is given -/
def ug (g : Nat → Nat) (k v : Nat) : Nat → Nat := fun i => if i = k then v else g i
theorem ug_s {g : Nat → Nat} {k v : Nat} : ug g k v k = v := if_pos rfl
theorem ug_o {g : Nat → Nat} {k v i : Nat} (h : i ≠ k) : ug g k v i = g i := if_neg h
/-- stronger ones have greater weights -/
def okw (C : Nat) (σ g : Nat → Nat) : Bool := aln (fun i => aln (fun j => !decide (σ i < σ j) || decide (g i < g j)) C) C
theorem okw_g {C : Nat} {σ g : Nat → Nat} (h : okw C σ g = true) : ∀ i j, i < C → j < C → σ i < σ j → g i < g j := fun i j hi hj l => by
  have := aln_g (aln_g h i hi) j hj
  rw [decide_eq_true l] at this
  exact of_decide_eq_true this
theorem okw_i {C : Nat} {σ g : Nat → Nat} (h : ∀ i j, i < C → j < C → σ i < σ j → g i < g j) : okw C σ g = true := aln_i (fun i hi => aln_i (fun j hj => by
  by_cases l : σ i < σ j
  · rw [decide_eq_true l, decide_eq_true (h i j hi hj l)]; rfl
  · rw [decide_eq_false l]; rfl))
theorem okw_f {C : Nat} {σ g : Nat → Nat} {i j : Nat} (hi : i < C) (hj : j < C) (l : σ i < σ j) (h : g j ≤ g i) : okw C σ g = false := by
  cases z : okw C σ g with
  | false => rfl
  | true => have := okw_g z i j hi hj l; omega
theorem okw_c {C : Nat} {σ g g' : Nat → Nat} (h : ∀ i, i < C → g i = g' i) : okw C σ g = okw C σ g' := aln_c C (fun i hi => aln_c C (fun j hj => by rw [h i hi, h j hj]))
/-- a row of weights is looked at; what is held: how many, and 0 no end, 1 given up, s + 2 the sum s -/
def vst (R : (Nat → Nat) → Bool) (s : Nat) (g : Nat → Nat) (st : Nat × Nat) : Nat × Nat := if st.2 = 0 then (if 5000 < st.1 + 1 then (st.1 + 1, 1) else if R g = true then (st.1 + 1, s + 2) else (st.1 + 1, 0)) else st
theorem vst_n {R : (Nat → Nat) → Bool} {s : Nat} {g : Nat → Nat} {st : Nat × Nat} (h : st.2 ≠ 0) : vst R s g st = st := if_neg h
section
variable {C : Nat} {σ z : Nat → Nat} {V : (Nat → Nat) → Nat × Nat → Nat × Nat}
/-- all rows with a sum, in order -/
def Ks (C : Nat) (σ z : Nat → Nat) (V : (Nat → Nat) → Nat × Nat → Nat × Nat) : Nat → Nat → (Nat → Nat) → Nat → Nat × Nat → Nat × Nat
  | 0, _, g, l, st => if l = 0 ∧ okw C σ g = true then V g st else st
  | n + 1, k, g, l, st => dnf (fun v st => if z k * v ≤ l then Ks C σ z V n (k + 1) (ug g k v) (l - z k * v) st else st) 100 st
theorem Ks_0 {k : Nat} {g : Nat → Nat} {l : Nat} {st : Nat × Nat} : Ks C σ z V 0 k g l st = if l = 0 ∧ okw C σ g = true then V g st else st := rfl
theorem Ks_n {n k : Nat} {g : Nat → Nat} {l : Nat} {st : Nat × Nat} : Ks C σ z V (n + 1) k g l st = dnf (fun v st => if z k * v ≤ l then Ks C σ z V n (k + 1) (ug g k v) (l - z k * v) st else st) 100 st := rfl
theorem Ks_s {st : Nat × Nat} (hV : ∀ g, V g st = st) : ∀ n k g l, Ks C σ z V n k g l st = st := by
  intro n
  induction n with
  | zero => intro k g l; rw [Ks_0]; split; exact hV g; rfl
  | succ n ih => intro k g l; rw [Ks_n]; exact dnf_i 100 (fun v _ => by split; exact ih _ _ _; rfl)
/-- where no row fits, nothing is looked at -/
theorem Ks_p {st : Nat × Nat} : ∀ n k g l, k + n = C → (∀ g', (∀ i, i < k → g' i = g i) → (∀ i, k ≤ i → i < C → g' i < 100) → sm (fun i => if k ≤ i then z i * g' i else 0) C = l → okw C σ g' = false) → Ks C σ z V n k g l st = st := by
  intro n
  induction n with
  | zero =>
    intro k g l e N
    rw [Ks_0]
    split
    · rename_i h
      have := N g (fun _ _ => rfl) (fun i h1 h2 => by omega) (by rw [h.1]; exact sm_z C (fun i hi => if_neg (by omega)))
      rw [h.2] at this
      cases this
    · rfl
  | succ n ih =>
    intro k g l e N
    rw [Ks_n]
    refine dnf_i 100 (fun v hv => ?_)
    split
    · rename_i hl
      refine ih (k + 1) _ _ (by omega) (fun g' h1 h2 h3 => ?_)
      have ek : g' k = v := (h1 k (by omega)).trans ug_s
      refine N g' (fun i hi => (h1 i (by omega)).trans (ug_o (by omega))) (fun i i1 i2 => ?_) ?_
      · by_cases y : i = k
        · rw [y, ek]; exact hv
        · exact h2 i (by omega) i2
      · have e2 : sm (fun i => if k ≤ i then z i * g' i else 0) C = sm (fun i => if k + 1 ≤ i then z i * g' i else 0) C + sm (fun i => if i = k then z k * v else 0) C := by
          rw [← sm_a]
          refine sm_c C (fun i hi => ?_)
          by_cases y : i = k
          · rw [if_pos (by omega), if_neg (by omega), if_pos y, y, ek]; omega
          · by_cases w : k ≤ i
            · rw [if_pos w, if_pos (by omega), if_neg y]; rfl
            · rw [if_neg w, if_neg (by omega), if_neg y]
        rw [e2, h3, sm_1, if_pos (by omega)]
        omega
    · rfl
theorem Ks_e (hV : ∀ g g' st, (∀ i, i < C → g i = g' i) → V g st = V g' st) : ∀ n k g g' l st, k + n = C → (∀ i, i < k → g i = g' i) → Ks C σ z V n k g l st = Ks C σ z V n k g' l st := by
  intro n
  induction n with
  | zero =>
    intro k g g' l st e h
    have h' : ∀ i, i < C → g i = g' i := fun i hi => h i (by omega)
    rw [Ks_0, Ks_0, okw_c h', hV g g' st h']
  | succ n ih =>
    intro k g g' l st e h
    rw [Ks_n, Ks_n]
    refine dnf_c 100 st (fun v st hv => ?_)
    rw [ih (k + 1) (ug g k v) (ug g' k v) _ st (by omega) (fun i hi => ?_)]
    by_cases y : i = k
    · rw [y, ug_s, ug_s]
    · rw [ug_o y, ug_o y]; exact h i (by omega)
/-- one weight at a place, and what follows -/
def Fk (C : Nat) (σ z : Nat → Nat) (V : (Nat → Nat) → Nat × Nat → Nat × Nat) (k : Nat) (g : Nat → Nat) (l v : Nat) (st : Nat × Nat) : Nat × Nat := if z k * v ≤ l then Ks C σ z V (C - k - 1) (k + 1) (ug g k v) (l - z k * v) st else st
/-- what is left of the search: at a place the weights below v, then those of the places ahead -/
def Kc (C : Nat) (σ z : Nat → Nat) (V : (Nat → Nat) → Nat × Nat → Nat × Nat) : Nat → (Nat → Nat) → Nat → Nat → Nat × Nat → Nat × Nat
  | 0, g, l, v, st => dnf (Fk C σ z V 0 g l) v st
  | k + 1, g, l, v, st => Kc C σ z V k g (l + z k * g k) (g k) (dnf (Fk C σ z V (k + 1) g l) v st)
theorem Kc_v {k : Nat} {g : Nat → Nat} {l v : Nat} {st : Nat × Nat} : Kc C σ z V k g l (v + 1) st = Kc C σ z V k g l v (Fk C σ z V k g l v st) := by cases k <;> rfl
theorem Fk_s {st : Nat × Nat} (hV : ∀ g, V g st = st) {k : Nat} {g : Nat → Nat} {l v : Nat} : Fk C σ z V k g l v st = st := by
  unfold Fk
  split
  · exact Ks_s hV _ _ _ _
  · rfl
theorem Kc_s {st : Nat × Nat} (hV : ∀ g, V g st = st) : ∀ k g l v, Kc C σ z V k g l v st = st := by
  intro k
  induction k with
  | zero => intro g l v; exact dnf_i v (fun _ _ => Fk_s hV)
  | succ k ih =>
    intro g l v
    show Kc C σ z V k g (l + z k * g k) (g k) (dnf (Fk C σ z V (k + 1) g l) v st) = st
    rw [dnf_i v (fun _ _ => Fk_s hV)]
    exact ih _ _ _
theorem Fk_e (hV : ∀ g g' st, (∀ i, i < C → g i = g' i) → V g st = V g' st) {k : Nat} {g g' : Nat → Nat} {l v : Nat} {st : Nat × Nat} (hk : k < C) (h : ∀ i, i < k → g i = g' i) : Fk C σ z V k g l v st = Fk C σ z V k g' l v st := by
  unfold Fk
  rw [Ks_e hV (C - k - 1) (k + 1) (ug g k v) (ug g' k v) _ st (by omega) (fun i hi => ?_)]
  by_cases y : i = k
  · rw [y, ug_s, ug_s]
  · rw [ug_o y, ug_o y]; exact h i (by omega)
theorem Kc_e (hV : ∀ g g' st, (∀ i, i < C → g i = g' i) → V g st = V g' st) : ∀ k g g' l v st, k < C → (∀ i, i < k → g i = g' i) → Kc C σ z V k g l v st = Kc C σ z V k g' l v st := by
  intro k
  induction k with
  | zero => intro g g' l v st hk h; exact dnf_c v st (fun v st _ => Fk_e hV hk h)
  | succ k ih =>
    intro g g' l v st hk h
    show Kc C σ z V k g (l + z k * g k) (g k) (dnf (Fk C σ z V (k + 1) g l) v st) = Kc C σ z V k g' (l + z k * g' k) (g' k) (dnf (Fk C σ z V (k + 1) g' l) v st)
    rw [dnf_c v st (fun v st _ => Fk_e hV hk h), h k (by omega)]
    exact ih _ _ _ _ _ (by omega) (fun i hi => h i (by omega))
/-- a place further -/
theorem Kc_p (hV : ∀ g g' st, (∀ i, i < C → g i = g' i) → V g st = V g' st) {k : Nat} {g : Nat → Nat} {l v : Nat} {st : Nat × Nat} (hk : k + 1 < C) : Kc C σ z V (k + 1) (ug g k v) l 100 st = Kc C σ z V k g (l + z k * v) v (Ks C σ z V (C - k - 1) (k + 1) (ug g k v) l st) := by
  show Kc C σ z V k (ug g k v) (l + z k * ug g k v k) (ug g k v k) (dnf (Fk C σ z V (k + 1) (ug g k v) l) 100 st) = _
  rw [ug_s, show C - k - 1 = (C - (k + 1) - 1) + 1 by omega, Ks_n]
  exact Kc_e hV k _ _ _ _ _ (by omega) (fun i hi => ug_o (by omega))
/-- the search from its beginning -/
theorem Kc_0 {g : Nat → Nat} {l : Nat} {st : Nat × Nat} (hC : 1 ≤ C) : Ks C σ z V C 0 g l st = Kc C σ z V 0 g l 100 st := by
  obtain ⟨n, rfl⟩ : ∃ n, C = n + 1 := ⟨C - 1, by omega⟩
  rfl
/-- so far stronger ones have greater weights -/
def pre (σ : Nat → Nat) (k : Nat) (g : Nat → Nat) : Prop := ∀ i j, i < k → j < k → σ i < σ j → g i < g j
def mayb (σ g : Nat → Nat) (k v : Nat) : Bool := aln (fun i => (!decide (σ k < σ i) || decide (v < g i)) && (!decide (σ i < σ k) || decide (g i < v))) k
theorem pre_s {k v : Nat} {g : Nat → Nat} (h : pre σ k g) (m : mayb σ g k v = true) : pre σ (k + 1) (ug g k v) := by
  intro i j hi hj l
  by_cases y : i = k
  · subst y
    rw [ug_s]
    by_cases w : j = i
    · rw [w] at l; omega
    · rw [ug_o w]
      have := aln_g m j (by omega)
      rw [decide_eq_true l, Bool.and_eq_true] at this
      exact of_decide_eq_true this.1
  · rw [ug_o y]
    by_cases w : j = k
    · subst w
      rw [ug_s]
      have := aln_g m i (by omega)
      rw [decide_eq_true l, Bool.and_eq_true] at this
      exact of_decide_eq_true this.2
    · rw [ug_o w]
      exact h i j (by omega) (by omega) l
theorem pre_d {k : Nat} {g : Nat → Nat} (h : pre σ (k + 1) g) : pre σ k g := fun i j hi hj l => h i j (by omega) (by omega) l
theorem pre_c {k : Nat} {g g' : Nat → Nat} (h : pre σ k g) (e : ∀ i, i < k → g i = g' i) : pre σ k g' := fun i j hi hj l => by rw [← e i hi, ← e j hj]; exact h i j hi hj l
theorem aln_w {P : Nat → Bool} : ∀ {n : Nat}, aln P n = false → ∃ k, k < n ∧ P k = false := by
  intro n
  induction n with
  | zero => intro h; cases h
  | succ n ih =>
    intro h
    have h : (aln P n && P n) = false := h
    cases p : P n with
    | false => exact ⟨n, by omega, p⟩
    | true =>
      rw [p, Bool.and_true] at h
      obtain ⟨k, k1, k2⟩ := ih h
      exact ⟨k, by omega, k2⟩
/-- a weight that can't be -/
theorem may_p {k v n l : Nat} {g : Nat → Nat} {st : Nat × Nat} (hk : k < C) (e : k + 1 + n = C) (m : mayb σ g k v = false) : Ks C σ z V n (k + 1) (ug g k v) l st = st := by
  refine Ks_p n (k + 1) _ _ e (fun g' h1 _ _ => ?_)
  have ek : g' k = v := (h1 k (by omega)).trans ug_s
  obtain ⟨i, i1, i2⟩ := aln_w m
  have ei : g' i = g i := (h1 i (by omega)).trans (ug_o (by omega))
  rw [Bool.and_eq_false_iff] at i2
  rcases i2 with y | y
  · rw [Bool.or_eq_false_iff, Bool.not_eq_false', decide_eq_true_eq, decide_eq_false_iff_not] at y
    exact okw_f hk (by omega) y.1 (by omega)
  · rw [Bool.or_eq_false_iff, Bool.not_eq_false', decide_eq_true_eq, decide_eq_false_iff_not] at y
    exact okw_f (by omega) hk y.1 (by omega)
end
/-! the class's bounds -/
/-- weights, by strength, that fit those held -/
def fit (C : Nat) (H : Nat → Option Nat) (G : Nat → Nat) : Prop := (∀ t v, t < C → H t = some v → G t = v) ∧ ∀ s t, s < t → t < C → G s < G t
theorem fit_c {C : Nat} {H : Nat → Option Nat} {G : Nat → Nat} (f : fit C H G) : ∀ s t, s ≤ t → t < C → G s + (t - s) ≤ G t := by
  intro s t h1
  induction t with
  | zero => intro _; rw [show s = 0 by omega]; omega
  | succ t ih =>
    intro h2
    by_cases z : s = t + 1
    · rw [z]; omega
    · have := ih (by omega) (by omega)
      have := f.2 t (t + 1) (by omega) h2
      omega
theorem fit_0 {C : Nat} {H : Nat → Option Nat} {G : Nat → Nat} (f : fit C H G) (t : Nat) (h : t < C) : t ≤ G t := by
  have := fit_c f 0 t (by omega) h
  omega
/-- what the free ones from lo on weigh -/
def frw (C : Nat) (H : Nat → Option Nat) (zs G : Nat → Nat) (lo : Nat) : Nat := sm (fun t => if lo ≤ t ∧ H t = none then zs t * G t else 0) C
theorem frw_s {C : Nat} {H : Nat → Option Nat} {zs G : Nat → Nat} {t : Nat} (ht : t < C) : frw C H zs G t = frw C H zs G (t + 1) + (if H t = none then zs t * G t else 0) := by
  unfold frw
  rw [show (if H t = none then zs t * G t else 0) = sm (fun i => if i = t then (if H t = none then zs t * G t else 0) else 0) C by rw [sm_1, if_pos ht], ← sm_a]
  refine sm_c C (fun i hi => ?_)
  by_cases y : i = t
  · subst y
    rw [if_pos rfl, if_neg (fun e : i + 1 ≤ i ∧ _ => by omega), Nat.zero_add]
    by_cases w : H i = none
    · rw [if_pos ⟨Nat.le_refl _, w⟩, if_pos w]
    · rw [if_neg (fun e => w e.2), if_neg w]
  · rw [if_neg y, Nat.add_zero]
    by_cases w : t ≤ i ∧ H i = none
    · rw [if_pos w, if_pos ⟨by omega, w.2⟩]
    · rw [if_neg w, if_neg (fun e => w ⟨by omega, e.2⟩)]
theorem frw_C {C : Nat} {H : Nat → Option Nat} {zs G : Nat → Nat} : frw C H zs G C = 0 := sm_z C (fun t ht => if_neg (fun e => by omega))
/-- .. of all, those below n -/
def frb (H : Nat → Option Nat) (zs G : Nat → Nat) (n : Nat) : Nat := sm (fun t => if H t = none then zs t * G t else 0) n
theorem frb_0 {C : Nat} {H : Nat → Option Nat} {zs G : Nat → Nat} : frw C H zs G 0 = frb H zs G C := sm_c C (fun t _ => by
  by_cases w : H t = none
  · rw [if_pos ⟨Nat.zero_le _, w⟩, if_pos w]
  · rw [if_neg (fun e => w e.2), if_neg w])
section
variable {C : Nat} {σ z : Nat → Nat}
/-- the one of a strength -/
def tau (C : Nat) (σ : Nat → Nat) (t : Nat) : Nat := lsw (fun c => decide (σ c = t)) C
def sbj (C : Nat) (σ : Nat → Nat) : Prop := (∀ c, c < C → σ c < C) ∧ (∀ c c', c < C → c' < C → σ c = σ c' → c = c') ∧ ∀ t, t < C → ∃ c, c < C ∧ σ c = t
theorem tau_t (B : sbj C σ) {t : Nat} (ht : t < C) : tau C σ t < C ∧ σ (tau C σ t) = t := by
  obtain ⟨c, c1, c2⟩ := B.2.2 t ht
  have h := lsw_m (P := fun c => decide (σ c = t)) (k := c) (decide_eq_true c2) C c1
  have l : tau C σ t < C := Nat.lt_of_le_of_lt h c1
  exact ⟨l, of_decide_eq_true (lsw_p (P := fun c => decide (σ c = t)) C l)⟩
theorem tau_s (B : sbj C σ) {c : Nat} (hc : c < C) : tau C σ (σ c) = c := by
  obtain ⟨h1, h2⟩ := tau_t B (B.1 c hc)
  exact B.2.1 _ _ h1 hc h2
/-- what is held when the first k have weights -/
def Hk (C : Nat) (σ : Nat → Nat) (k : Nat) (g : Nat → Nat) (t : Nat) : Option Nat := if tau C σ t < k then some (g (tau C σ t)) else none
theorem Hk_s (B : sbj C σ) {k c : Nat} {g : Nat → Nat} (hc : c < C) : Hk C σ k g (σ c) = if c < k then some (g c) else none := by unfold Hk; rw [tau_s B hc]
theorem fit_of (B : sbj C σ) {k : Nat} {g g' : Nat → Nat} (h : okw C σ g' = true) (e : ∀ i, i < k → g' i = g i) : fit C (Hk C σ k g) (fun t => g' (tau C σ t)) := by
  refine ⟨fun t v ht hv => ?_, fun s t l ht => ?_⟩
  · unfold Hk at hv
    split at hv
    · rename_i y
      cases hv
      exact e _ y
    · cases hv
  · obtain ⟨s1, s2⟩ := tau_t B (show s < C by omega)
    obtain ⟨t1, t2⟩ := tau_t B ht
    exact okw_g h _ _ s1 t1 (by omega)
theorem frw_k (B : sbj C σ) {k : Nat} {g g' : Nat → Nat} : frw C (Hk C σ k g) (fun t => z (tau C σ t)) (fun t => g' (tau C σ t)) 0 = sm (fun i => if k ≤ i then z i * g' i else 0) C := by
  unfold frw
  rw [← sm_p (P := fun _ => true) (N := C) (L := C) (R := σ) (fun c hc _ => B.1 c hc) (fun c c' h1 h2 _ _ e => B.2.1 c c' h1 h2 e) (fun t ht => by
    obtain ⟨c, c1, c2⟩ := B.2.2 t ht
    exact ⟨c, c1, rfl, c2⟩)]
  refine sm_c C (fun c hc => ?_)
  dsimp only
  rw [if_pos rfl, Hk_s B hc, tau_s B hc]
  by_cases y : c < k
  · rw [if_pos y, if_neg (fun e => by cases e.2), if_neg (by omega)]
  · rw [if_neg y, if_pos ⟨Nat.zero_le _, rfl⟩, if_pos (by omega)]
end
/-! what a row of weights must do -/
section
variable {W : Nat → Bool} {m : Nat}
def wtg (W : Nat → Bool) (m : Nat) (g : Nat → Nat) (S : Nat) : Nat := sm (fun a => if S.testBit a = true then g (cl W m a) else 0) m
def rgt' (W : Nat → Bool) (m s : Nat) (g : Nat → Nat) : Bool := aln (fun L => !mi W m false L || aln (fun H => !mi W m true H || decide (s < wtg W m g L + wtg W m g H)) (2 ^ m)) (2 ^ m)
theorem rgt_g {s L H : Nat} {g : Nat → Nat} (h : rgt' W m s g = true) (hL : L < 2 ^ m) (hH : H < 2 ^ m) (pL : mi W m false L = true) (pH : mi W m true H = true) : s < wtg W m g L + wtg W m g H := by
  have a := aln_g h L hL
  rw [pL] at a
  have b := aln_g (show aln (fun H => !mi W m true H || decide (s < wtg W m g L + wtg W m g H)) (2 ^ m) = true from a) H hH
  rw [pH] at b
  exact of_decide_eq_true b
theorem rgt_i {s : Nat} {g : Nat → Nat} (h : ∀ L H, L < 2 ^ m → H < 2 ^ m → mi W m false L = true → mi W m true H = true → s < wtg W m g L + wtg W m g H) : rgt' W m s g = true := aln_i (fun L hL => by
  cases pL : mi W m false L with
  | false => rfl
  | true =>
    rw [Bool.not_true, Bool.false_or]
    refine aln_i (fun H hH => ?_)
    cases pH : mi W m true H with
    | false => rfl
    | true => exact decide_eq_true (h L H hL hH pL pH))
theorem rgt_f {s L H : Nat} {g : Nat → Nat} (hL : L < 2 ^ m) (hH : H < 2 ^ m) (pL : mi W m false L = true) (pH : mi W m true H = true) (l : wtg W m g L + wtg W m g H ≤ s) : rgt' W m s g = false := by
  cases z : rgt' W m s g with
  | false => rfl
  | true => have := rgt_g z hL hH pL pH; omega
theorem wtg_c {g g' : Nat → Nat} {S : Nat} (h : ∀ i, i < nC W m → g i = g' i) : wtg W m g S = wtg W m g' S := sm_c m (fun a ha => by rw [h _ (cl_lt ha)])
theorem rgt_c {g g' : Nat → Nat} {s : Nat} (h : ∀ i, i < nC W m → g i = g' i) : rgt' W m s g = rgt' W m s g' := by
  unfold rgt'
  refine aln_c _ (fun L _ => ?_)
  rw [aln_c _ (fun H _ => by rw [wtg_c (g := g) (g' := g') h, wtg_c (g := g) (g' := g') h])]
theorem vst_c {s : Nat} {g g' : Nat → Nat} {st : Nat × Nat} (h : ∀ i, i < nC W m → g i = g' i) : vst (rgt' W m s) s g st = vst (rgt' W m s) s g' st := by
  unfold vst
  rw [rgt_c h]
/-- all that is looked for below a sum -/
def Ss (W : Nat → Bool) (m : Nat) : Nat → Nat × Nat
  | 0 => (0, 0)
  | s + 1 => Ks (nC W m) (sg W m) (szc W m) (vst (rgt' W m s) s) (nC W m) 0 (fun _ => 0) s (Ss W m s)
theorem Ss_s {s : Nat} (h : (Ss W m s).2 ≠ 0) : ∀ n, Ss W m (s + n) = Ss W m s := by
  intro n
  induction n with
  | zero => rfl
  | succ n ih =>
    show Ks _ _ _ _ _ _ _ _ (Ss W m (s + n)) = _
    rw [ih]
    exact Ks_s (fun g => vst_n h) _ _ _ _
def wcd : Nat → Int32
  | 0 => Int32.ofInt (-1)
  | 1 => -2
  | s + 2 => nI s
/-- what weigh answers -/
def wgV (W : Nat → Bool) (m : Nat) : Int32 := cond (lnd W m && (!W 0 && W (2 ^ m - 1))) (wcd (Ss W m 61).2) (Int32.ofInt (-1))
theorem sbj_W (L : Ln W m) : sbj (nC W m) (sg W m) := ⟨fun _ h => sg_lt h, fun _ _ h1 h2 e => sg_in L h1 h2 e, sg_su L⟩
end
end XWB
end
section
section XWC
theorem nI_ad {a b : Nat} : nI a + nI b = nI (a + b) := (Int32.ofNat_add a b).symm
theorem nI_ml {a b : Nat} : nI a * nI b = nI (a * b) := (Int32.ofNat_mul a b).symm
theorem ngt_t {a b : Nat} (ha : a < 2 ^ 31) (hb : b < 2 ^ 31) (h : b < a) : xe_c .gt (nI a) (nI b) = true := xgt_t (by rw [nI_toInt ha, nI_toInt hb]; omega)
theorem ngt_f {a b : Nat} (ha : a < 2 ^ 31) (hb : b < 2 ^ 31) (h : a ≤ b) : xe_c .gt (nI a) (nI b) = false := xgt_f (by rw [nI_toInt ha, nI_toInt hb]; omega)
theorem nle_t {a b : Nat} (ha : a < 2 ^ 31) (hb : b < 2 ^ 31) (h : a ≤ b) : xe_c .le (nI a) (nI b) = true := xle_t (by rw [nI_toInt ha, nI_toInt hb]; omega)
theorem nle_f {a b : Nat} (ha : a < 2 ^ 31) (hb : b < 2 ^ 31) (h : b < a) : xe_c .le (nI a) (nI b) = false := xle_f (by rw [nI_toInt ha, nI_toInt hb]; omega)
theorem nlt_t {a b : Nat} (ha : a < 2 ^ 31) (hb : b < 2 ^ 31) (h : a < b) : xe_c .lt (nI a) (nI b) = true := xlt_t (by rw [nI_toInt ha, nI_toInt hb]; omega)
theorem nlt_f {a b : Nat} (ha : a < 2 ^ 31) (hb : b < 2 ^ 31) (h : b ≤ a) : xe_c .lt (nI a) (nI b) = false := xlt_f (by rw [nI_toInt ha, nI_toInt hb]; omega)
theorem nI_n1 {a : Nat} (ha : a < 2 ^ 31) : xe_c .ne (nI a) (Int32.ofInt (-1)) = true := by
  cases z : xe_c .ne (nI a) (Int32.ofInt (-1)) with
  | true => rfl
  | false =>
    have e := congrArg Int32.toInt (xne_j z)
    rw [nI_toInt ha] at e
    have : (Int32.ofInt (-1)).toInt = -1 := by decide
    omega
theorem nI_e1 {a : Nat} (ha : a < 2 ^ 31) : xe_c .eq (nI a) (Int32.ofInt (-1)) = false := by rw [xc_eq, nI_n1 ha]; rfl
theorem nI_i0 {a : Nat} (ha : a < 2 ^ 31) : xe_c .lt (nI a) 0 = false := xlt_f (by rw [nI_toInt ha]; show (0 : Int) ≤ _; omega)
theorem cnt_z : ∀ n, cnt (fun _ => false) n = 0 := by
  intro n
  induction n with
  | zero => rfl
  | succ n ih => rw [cnt_f rfl]; exact ih
section
variable {W : Nat → Bool} {m : Nat}
/-- the kinds so far -/
def FS (c k : Nat) : Bool := Nat.beq c 54 || (Nat.beq c 55 || (Nat.beq c 56 || (Nat.beq c 61 || (Nat.beq c 39 && Nat.beq k 46))))
theorem RA_f {S L : Nat → Nat → Bool} {h h' : xh_H} (A : RA W m h) (g : fx S L h h') (e1 : S 39 4 = false) (e2 : S 39 35 = false) (e3 : ∀ s, S 53 s = false) : RA W m h' := ⟨(fx_i g e1).trans A.1, (fx_i g e2).trans A.2.1, fun s hs => (fx_i g (e3 s)).trans (A.2.2 s hs)⟩
theorem fs_b {c n : Nat} (hc : c < cnt (isf W m) n) (hn : n ≤ m) : fs W m c < n := by
  have hC : c < nC W m := Nat.lt_of_lt_of_le hc (cnt_m hn)
  obtain ⟨h1, h2, h3⟩ := fsq1 hC
  by_cases z : fs W m c < n
  · exact z
  · have := cnt_m (P := isf W m) (show n ≤ fs W m c by omega)
    omega
theorem cl_n {a n : Nat} (ha : a < n) (hn : n ≤ m) : cl W m a < cnt (isf W m) n := cnt_lt (rp_f (by omega)) (Nat.lt_of_le_of_lt (rp_1 (by omega)).1 ha)
/-- a new kind -/
theorem isf_n {a : Nat} (ha : a < m) (h : ∀ k, k < cnt (isf W m) a → alk W m a (fs W m k) = false) : isf W m a = true ∧ cl W m a = cnt (isf W m) a := by
  have e : isf W m a = true := by
    refine aln_i (fun b hb => ?_)
    cases z : alk W m a b with
    | false => rfl
    | true =>
      have hb' : b < m := by omega
      have g := h (cl W m b) (cl_n hb (by omega))
      rw [alk_t ha (fsq1 (cl_lt hb')).1 z (fs_cl hb')] at g
      cases g
  exact ⟨e, by unfold cl; rw [isf_r ha e]⟩
theorem isf_o {a k : Nat} (ha : a < m) (hk : k < cnt (isf W m) a) (h : alk W m a (fs W m k) = true) : isf W m a = false ∧ cl W m a = k := by
  have hC : k < nC W m := Nat.lt_of_lt_of_le hk (cnt_m (by omega))
  have l := fs_b hk (by omega)
  refine ⟨aln_f (P := fun b => !alk W m a b) (k := fs W m k) (by rw [h]; rfl) a l, ?_⟩
  have := (cl_e ha (fsq1 hC).1).mpr h
  rw [cl_fs hC] at this
  exact this
/-- after n members -/
def fsI (W : Nat → Bool) (m n : Nat) (h : xh_H) : Prop := xg 0 h.2.1 39 46 = nI (cnt (isf W m) n) ∧ (∀ a, a < n → xg 0 h.2.1 54 a = nI (cl W m a)) ∧ (∀ c, c < cnt (isf W m) n → xg 0 h.2.1 55 c = nI (cnt (fun a => decide (cl W m a = c)) n)) ∧ ∀ c, c < cnt (isf W m) n → xg 0 h.2.1 56 c = nI (fs W m c)
theorem hdvw3 {o u : Bool} : xe_c .ne (hdv o u) (Int32.ofInt 3) = !(o && u) := by cases o <;> cases u <;> decide
theorem hdvw1 {o u : Bool} : xe_c .ne (hdv o u) (Int32.ofInt 1) = !(o && !u) := by cases o <;> cases u <;> decide
set_option maxRecDepth 100000 in
set_option maxHeartbeats 8000000 in
/-- X10.findSorts, one member's kind -/
theorem fso_in {hb : xh_H} (m12 : m ≤ 12) {n : Nat} (hn : n < m) {Q : Option Value → xh_H → Prop} (K : ∀ (f : Nat) (h : xh_H), a_rq a_tb h → RA W m h → fx FS fN hb h → fsI W m (n + 1) h → xq f xi_X10_findSorts xmi_X10_findSorts 7 [(0, .ref 39), (1, .int (nI (n + 1)))] [] h Q) : ∀ (j f k : Nat) (h : xh_H), k + j = cnt (isf W m) n → a_rq a_tb h → RA W m h → fx FS fN hb h → fsI W m n h → xg 0 h.2.1 54 n = Int32.ofInt (-1) → (∀ k', k' < k → alk W m n (fs W m k') = false) → xq f xi_X10_findSorts xmi_X10_findSorts 24 [(0, .ref 39), (1, .int (nI n)), (2, .int (nI k))] [] h Q := by
  have cn : cnt (isf W m) n ≤ n := cnt_le n
  intro j
  induction j with
  | zero =>
    intro f k h kj hq A ge I e54 w
    have e : k = cnt (isf W m) n := by omega
    obtain ⟨i1, i2, i3, i4⟩ := I
    have x46 : xe_c .ge (nI k) (xg 0 h.2.1 39 46) = true := by rw [i1, e]; exact nge_t (by omega) (by omega) (Nat.le_refl _)
    have x54 : xe_c .eq (xg 0 h.2.1 54 (nI n).toNatClampNeg) (Int32.ofInt (-1)) = true := by rw [nI_clamp (by omega), e54]; rfl
    obtain ⟨n1, n2⟩ := isf_n hn (fun k' hk => w k' (by omega))
    have ec : (nI n).toNatClampNeg = n := nI_clamp (by omega)
    have es : (nI (cnt (isf W m) n)).toNatClampNeg = cnt (isf W m) n := nI_clamp (by omega)
    refine xq_n 108 [0, 1] [(0, .ref 39), (1, .int (nI n))] [] (xh_ui h 54 (nI n).toNatClampNeg (xg 0 h.2.1 39 46)) [true, true] 60 hq rfl ⟨x46, x54, trivial⟩ (fun _ => ?_)
    rw [ec, i1]
    have hq : a_rq a_tb (xh_ui h 54 n (nI (cnt (isf W m) n))) := a_rq_ui hq
    have j1 : xg 0 (xh_ui h 54 n (nI (cnt (isf W m) n))).2.1 39 46 = nI (cnt (isf W m) n) := (gx_o (by decide)).trans i1
    refine xq_n 118 [0, 1] [(0, .ref 39), (1, .int (nI n))] [] (xh_ui (xh_ui h 54 n (nI (cnt (isf W m) n))) 56 (xg 0 (xh_ui h 54 n (nI (cnt (isf W m) n))).2.1 39 46).toNatClampNeg (nI n)) [] 60 hq rfl trivial (fun _ => ?_)
    rw [j1, es]
    have hq : a_rq a_tb (xh_ui (xh_ui h 54 n (nI (cnt (isf W m) n))) 56 (cnt (isf W m) n) (nI n)) := a_rq_ui hq
    have j2 : xg 0 (xh_ui (xh_ui h 54 n (nI (cnt (isf W m) n))) 56 (cnt (isf W m) n) (nI n)).2.1 39 46 = nI (cnt (isf W m) n) := (gx_o (by decide)).trans j1
    refine xq_n 128 [0, 1] [(0, .ref 39), (1, .int (nI n))] [] (xh_ui (xh_ui (xh_ui h 54 n (nI (cnt (isf W m) n))) 56 (cnt (isf W m) n) (nI n)) 55 (xg 0 (xh_ui (xh_ui h 54 n (nI (cnt (isf W m) n))) 56 (cnt (isf W m) n) (nI n)).2.1 39 46).toNatClampNeg (Int32.ofInt 1)) [] 60 hq rfl trivial (fun _ => ?_)
    rw [j2, es]
    have hq : a_rq a_tb (xh_ui (xh_ui (xh_ui h 54 n (nI (cnt (isf W m) n))) 56 (cnt (isf W m) n) (nI n)) 55 (cnt (isf W m) n) (Int32.ofInt 1)) := a_rq_ui hq
    have j3 : xg 0 (xh_ui (xh_ui (xh_ui h 54 n (nI (cnt (isf W m) n))) 56 (cnt (isf W m) n) (nI n)) 55 (cnt (isf W m) n) (Int32.ofInt 1)).2.1 39 46 = nI (cnt (isf W m) n) := (gx_o (by decide)).trans j2
    refine xq_n 7 [0, 1] [(0, .ref 39), (1, .int (nI n + Int32.ofInt 1))] [] (xh_ui (xh_ui (xh_ui (xh_ui h 54 n (nI (cnt (isf W m) n))) 56 (cnt (isf W m) n) (nI n)) 55 (cnt (isf W m) n) (Int32.ofInt 1)) 39 46 (xg 0 (xh_ui (xh_ui (xh_ui h 54 n (nI (cnt (isf W m) n))) 56 (cnt (isf W m) n) (nI n)) 55 (cnt (isf W m) n) (Int32.ofInt 1)).2.1 39 46 + Int32.ofInt 1)) [] 60 hq rfl trivial (fun _ => ?_)
    rw [j3, nI_1', nI_1']
    have g4 : fx FS fN h (xh_ui (xh_ui (xh_ui (xh_ui h 54 n (nI (cnt (isf W m) n))) 56 (cnt (isf W m) n) (nI n)) 55 (cnt (isf W m) n) (Int32.ofInt 1)) 39 46 (nI (cnt (isf W m) n + 1))) := fx_ui (fx_ui (fx_ui (fx_ui fx_0 rfl) rfl) rfl) rfl
    refine K f _ (a_rq_ui hq) (RA_f A g4 rfl rfl (fun _ => rfl)) (fx_t ge g4) ?_
    unfold fsI
    rw [cnt_t n1]
    refine ⟨gx_s, fun a ha => ?_, fun c hc => ?_, fun c hc => ?_⟩
    · rw [gx_o (by decide), gx_o (by decide), gx_o (by decide), gx_if]
      by_cases z : a = n
      · rw [if_pos z, z, n2]
      · rw [if_neg z]; exact i2 a (by omega)
    · rw [gx_o (by decide), gx_if]
      by_cases z : c = cnt (isf W m) n
      · rw [if_pos z, cnt_t (decide_eq_true (by rw [n2, z]))]
        have e0 : cnt (fun a => decide (cl W m a = c)) n = 0 := by
          rw [cnt_c (P' := fun _ => false) n (fun a ha => decide_eq_false (fun y => by have := cl_n (W := W) ha (show n ≤ m by omega); omega))]
          exact cnt_z n
        rw [e0]
        rfl
      · rw [if_neg z, gx_o (by decide), gx_o (by decide), cnt_f (decide_eq_false (fun y => z (by rw [← y, n2])))]
        exact i3 c (by omega)
    · rw [gx_o (by decide), gx_o (by decide), gx_if]
      by_cases z : c = cnt (isf W m) n
      · rw [if_pos z, z, fs_f hn n1]
      · rw [if_neg z, gx_o (by decide)]
        exact i4 c (by omega)
  | succ j ih =>
    intro f k h kj hq A ge I e54 w
    obtain ⟨i1, i2, i3, i4⟩ := id I
    have kc : k < cnt (isf W m) n := by omega
    have hC : k < nC W m := Nat.lt_of_lt_of_le kc (cnt_m (by omega))
    have ec : (nI n).toNatClampNeg = n := nI_clamp (by omega)
    have x46 : xe_c .ge (nI k) (xg 0 h.2.1 39 46) = false := by rw [i1]; exact nge_f (by omega) (by omega) kc
    have x54 : xe_c .ne (xg 0 h.2.1 54 (nI n).toNatClampNeg) (Int32.ofInt (-1)) = false := by rw [ec, e54]; rfl
    refine xq_n 50 [0, 1, 2] [(0, .ref 39), (1, .int (nI n)), (2, .int (nI k))] [.int (xg 0 h.2.1 56 (nI k).toNatClampNeg), .int (nI n), .ref 39] h [false, false] 60 hq rfl ⟨x46, x54, trivial⟩ (fun _ => ?_)
    rw [nI_clamp (by omega), i4 k kc]
    refine xq_run hq rfl rfl (hel_q A m12 hn (fsq1 hC).1 hq) ?_
    rintro v h1 ⟨rfl, rfl⟩
    have hd := hdvw3 (o := aln (gp W n (fs W m k)) (2 ^ m)) (u := aln (gp W (fs W m k) n) (2 ^ m))
    cases c : alk W m n (fs W m k) with
    | false =>
      have c' : (aln (gp W n (fs W m k)) (2 ^ m) && aln (gp W (fs W m k) n) (2 ^ m)) = false := c
      rw [c'] at hd
      refine xq_n 24 [0, 1, 2] [(0, .ref 39), (1, .int (nI n)), (2, .int (nI k + Int32.ofInt 1))] [] h [true] 60 hq rfl ⟨hd, trivial⟩ (fun _ => ?_)
      rw [nI_1']
      refine ih f (k + 1) h (by omega) hq A ge I e54 (fun k' hk => ?_)
      by_cases z : k' = k
      · rw [z]; exact c
      · exact w k' (by omega)
    | true =>
      have c' : (aln (gp W n (fs W m k)) (2 ^ m) && aln (gp W (fs W m k) n) (2 ^ m)) = true := c
      rw [c'] at hd
      obtain ⟨n1, n2⟩ := isf_o hn kc c
      refine xq_n 24 [0, 1, 2] [(0, .ref 39), (1, .int (nI n)), (2, .int (nI k + Int32.ofInt 1))] [] (xh_ui h 54 (nI n).toNatClampNeg (nI k)) [false] 60 hq rfl ⟨hd, trivial⟩ (fun _ => ?_)
      rw [nI_1', ec]
      have hq : a_rq a_tb (xh_ui h 54 n (nI k)) := a_rq_ui hq
      have j1 : xg 0 (xh_ui h 54 n (nI k)).2.1 39 46 = nI (cnt (isf W m) n) := (gx_o (by decide)).trans i1
      have y54 : xg 0 (xh_ui h 54 n (nI k)).2.1 54 (nI n).toNatClampNeg = nI k := by rw [ec]; exact gx_s
      have z54 : xe_c .ne (xg 0 (xh_ui h 54 n (nI k)).2.1 54 (nI n).toNatClampNeg) (Int32.ofInt (-1)) = true := by rw [y54]; exact nI_n1 (by omega)
      have z54' : xe_c .eq (xg 0 (xh_ui h 54 n (nI k)).2.1 54 (nI n).toNatClampNeg) (Int32.ofInt (-1)) = false := by rw [y54]; exact nI_e1 (by omega)
      have key : ∀ (f : Nat) lv, xq f xi_X10_findSorts xmi_X10_findSorts 70 ((0, .ref 39) :: (1, .int (nI n)) :: lv) [] (xh_ui h 54 n (nI k)) Q := fun f lv => by
        refine xq_n 7 [0, 1] [(0, .ref 39), (1, .int (nI n + Int32.ofInt 1))] [] (xh_ui (xh_ui h 54 n (nI k)) 55 (xg 0 (xh_ui h 54 n (nI k)).2.1 54 (nI n).toNatClampNeg).toNatClampNeg (xg 0 (xh_ui h 54 n (nI k)).2.1 55 (xg 0 (xh_ui h 54 n (nI k)).2.1 54 (nI n).toNatClampNeg).toNatClampNeg + Int32.ofInt 1)) [false] 60 hq rfl ⟨z54', trivial⟩ (fun _ => ?_)
        rw [y54, nI_1', nI_clamp (by omega), gx_o (c := 54) (c' := 55) (by decide), i3 k kc, nI_1']
        have g4 : fx FS fN h (xh_ui (xh_ui h 54 n (nI k)) 55 k (nI (cnt (fun a => decide (cl W m a = k)) n + 1))) := fx_ui (fx_ui fx_0 rfl) rfl
        refine K f _ (a_rq_ui hq) (RA_f A g4 rfl rfl (fun _ => rfl)) (fx_t ge g4) ?_
        unfold fsI
        rw [cnt_f n1]
        refine ⟨(gx_o (by decide)).trans j1, fun a ha => ?_, fun c hc => ?_, fun c hc => ?_⟩
        · rw [gx_o (by decide), gx_if]
          by_cases z : a = n
          · rw [if_pos z, z, n2]
          · rw [if_neg z]; exact i2 a (by omega)
        · rw [gx_if]
          by_cases z : c = k
          · rw [if_pos z, cnt_t (decide_eq_true (by rw [n2, z])), z]
          · rw [if_neg z, gx_o (by decide), cnt_f (decide_eq_false (fun y => z (by rw [← y, n2])))]
            exact i3 c hc
        · rw [gx_o (by decide), gx_o (by decide)]
          exact i4 c hc
      by_cases z : k + 1 < cnt (isf W m) n
      · refine xq_n 70 [0, 1] [(0, .ref 39), (1, .int (nI n))] [] (xh_ui h 54 n (nI k)) [false, true] 60 hq rfl ⟨(show xe_c .ge (nI (k + 1)) (xg 0 (xh_ui h 54 n (nI k)).2.1 39 46) = false by rw [j1]; exact nge_f (by omega) (by omega) z), z54, trivial⟩ (fun _ => ?_)
        exact key f []
      · refine xq_n 70 [0, 1] [(0, .ref 39), (1, .int (nI n))] [] (xh_ui h 54 n (nI k)) [true] 60 hq rfl ⟨(show xe_c .ge (nI (k + 1)) (xg 0 (xh_ui h 54 n (nI k)).2.1 39 46) = true by rw [j1]; exact nge_t (by omega) (by omega) (by omega)), trivial⟩ (fun _ => ?_)
        exact key f []
set_option maxRecDepth 100000 in
set_option maxHeartbeats 4000000 in
theorem fso_l {hb : xh_H} (m12 : m ≤ 12) {Q : Option Value → xh_H → Prop} (K : ∀ (f : Nat) (h : xh_H), a_rq a_tb h → RA W m h → fx FS fN hb h → fsI W m m h → xq f xi_X10_findSorts xmi_X10_findSorts 144 [(0, .ref 39)] [] h Q) : ∀ (j f n : Nat) (h : xh_H), n + j = m → a_rq a_tb h → RA W m h → fx FS fN hb h → fsI W m n h → xq f xi_X10_findSorts xmi_X10_findSorts 7 [(0, .ref 39), (1, .int (nI n))] [] h Q := by
  intro j
  induction j with
  | zero =>
    intro f n h nj hq A ge I
    have e : n = m := by omega
    subst e
    refine xq_n 144 [0] [(0, .ref 39)] [] h [true] 60 hq rfl ⟨(show xe_c .ge (nI n) (xg 0 h.2.1 39 4) = true by rw [A.1]; exact nge_t (by omega) (by omega) (Nat.le_refl _)), trivial⟩ (fun _ => ?_)
    exact K f h hq A ge I
  | succ j ih =>
    intro f n h nj hq A ge I
    refine xq_n 24 [0, 1, 2] [(0, .ref 39), (1, .int (nI n)), (2, .int (Int32.ofInt 0))] [] (xh_ui h 54 (nI n).toNatClampNeg (Int32.ofInt (-1))) [false] 60 hq rfl ⟨(show xe_c .ge (nI n) (xg 0 h.2.1 39 4) = false by rw [A.1]; exact nge_f (by omega) (by omega) (by omega)), trivial⟩ (fun _ => ?_)
    rw [show (nI n).toNatClampNeg = n from nI_clamp (by omega)]
    have g1 : fx FS fN h (xh_ui h 54 n (Int32.ofInt (-1))) := fx_ui fx_0 rfl
    obtain ⟨i1, i2, i3, i4⟩ := I
    exact fso_in m12 (show n < m by omega) (fun f h hq A ge I => ih f (n + 1) h (by omega) hq A ge I) (cnt (isf W m) n) f 0 _ (by omega) (a_rq_ui hq) (RA_f A g1 rfl rfl (fun _ => rfl)) (fx_t ge g1) ⟨(gx_o (by decide)).trans i1, fun a ha => (gx_k (by omega)).trans (i2 a ha), fun c hc => (gx_o (by decide)).trans (i3 c hc), fun c hc => (gx_o (by decide)).trans (i4 c hc)⟩ gx_s (fun k' hk => absurd hk (Nat.not_lt_zero _))
end
end XWC
end
section
section XWD
section
variable {W : Nat → Bool} {m : Nat}
def iaI (W : Nat → Bool) (m a b : Nat) (h : xh_H) : Prop := ∀ a' b', a' < nC W m → b' < nC W m → (a' < a ∨ (a' = a ∧ b' < b)) → xg 0 h.2.1 61 (12 * a' + b') = bl (decide (sg W m b' < sg W m a'))
theorem iaI_w {a b : Nat} {x : Int32} {h : xh_H} (m12 : m ≤ 12) (ha : a < nC W m) (hb : b < nC W m) (I : iaI W m a b h) (e : x = bl (decide (sg W m b < sg W m a))) : iaI W m a (b + 1) (xh_ui h 61 (12 * a + b) x) := by
  have := nC_m (W := W) (m := m)
  intro a' b' ha' hb' l
  rw [gx_if]
  by_cases z : 12 * a' + b' = 12 * a + b
  · have z1 : a' = a := by omega
    have z2 : b' = b := by omega
    rw [if_pos z, z1, z2]
    exact e
  · rw [if_neg z]
    refine I a' b' ha' hb' ?_
    by_cases y : a' = a
    · exact Or.inr ⟨y, by omega⟩
    · exact Or.inl (by omega)
theorem vpb {b : Bool} : vp_nar FieldType.boolean (bl b) = bl b := by cases b <;> rfl
def fsJ (W : Nat → Bool) (m : Nat) (hb h : xh_H) : Prop := RA W m h ∧ fx FS fN hb h ∧ fsI W m m h
theorem fsJ_w {hb h : xh_H} {k : Nat} {x : Int32} (J : fsJ W m hb h) : fsJ W m hb (xh_ui h 61 k x) := by
  obtain ⟨A, ge, i1, i2, i3, i4⟩ := J
  have g1 : fx FS fN h (xh_ui h 61 k x) := fx_ui fx_0 rfl
  exact ⟨RA_f A g1 rfl rfl (fun _ => rfl), fx_t ge g1, (gx_o (by decide)).trans i1, fun a ha => (gx_o (by decide)).trans (i2 a ha), fun c hc => (gx_o (by decide)).trans (i3 c hc), fun c hc => (gx_o (by decide)).trans (i4 c hc)⟩
set_option maxRecDepth 100000 in
set_option maxHeartbeats 8000000 in
/-- X10.findSorts, which are above which -/
theorem fsb_in {hb : xh_H} (m12 : m ≤ 12) (L : Ln W m) {a : Nat} (ha : a < nC W m) {Q : Option Value → xh_H → Prop} (K : ∀ (f : Nat) (h : xh_H), a_rq a_tb h → fsJ W m hb h → iaI W m (a + 1) 0 h → xq f xi_X10_findSorts xmi_X10_findSorts 146 [(0, .ref 39), (1, .int (nI (a + 1)))] [] h Q) : ∀ (j f b : Nat) (h : xh_H), b + j = nC W m → a_rq a_tb h → fsJ W m hb h → iaI W m a b h → xq f xi_X10_findSorts xmi_X10_findSorts 156 [(0, .ref 39), (1, .int (nI a)), (2, .int (nI b))] [] h Q := by
  have cm := nC_m (W := W) (m := m)
  have cm' : cnt (isf W m) m ≤ m := cm
  intro j
  induction j with
  | zero =>
    intro f b h bj hq J I
    have e : b = nC W m := by omega
    refine xq_n 146 [0, 1] [(0, .ref 39), (1, .int (nI a + Int32.ofInt 1))] [] h [true] 60 hq rfl ⟨(show xe_c .ge (nI b) (xg 0 h.2.1 39 46) = true by rw [J.2.2.1, e]; exact nge_t (by omega) (by omega) (Nat.le_refl _)), trivial⟩ (fun _ => ?_)
    rw [nI_1']
    refine K f h hq J (fun a' b' ha' hb' l => I a' b' ha' hb' ?_)
    by_cases y : a' = a
    · exact Or.inr ⟨y, by omega⟩
    · exact Or.inl (by omega)
  | succ j ih =>
    intro f b h bj hq J I
    have hbC : b < nC W m := by omega
    have x46 : xe_c .ge (nI b) (xg 0 h.2.1 39 46) = false := by rw [J.2.2.1]; exact nge_f (by omega) (by omega) (show b < nC W m from hbC)
    have ix : (12 * nI a + nI b).toNatClampNeg = 12 * a + b := by rw [show (12 : Int32) = nI 12 from rfl, nI_ml, nI_ad]; exact nI_clamp (by omega)
    by_cases z : a = b
    · refine xq_n 156 [0, 1, 2] [(0, .ref 39), (1, .int (nI a)), (2, .int (nI b + Int32.ofInt 1))] [] (xh_ui h 61 (12 * nI a + nI b).toNatClampNeg (vp_nar .boolean (Int32.ofInt 0))) [false, true] 60 hq rfl ⟨x46, (show xe_c .eq (nI a) (nI b) = true by rw [z]; exact decide_eq_true rfl), trivial⟩ (fun _ => ?_)
      rw [nI_1', ix]
      exact ih f (b + 1) _ (by omega) (a_rq_ui hq) (fsJ_w J) (iaI_w m12 ha hbC I (by rw [z, decide_eq_false (Nat.lt_irrefl _)]; rfl))
    · refine xq_n 192 [0, 1, 2] [(0, .ref 39), (1, .int (nI a)), (2, .int (nI b))] [.int (xg 0 h.2.1 56 (nI b).toNatClampNeg), .int (xg 0 h.2.1 56 (nI a).toNatClampNeg), .ref 39, .int (12 * nI a + nI b), .ref 61] h [false, false] 60 hq rfl ⟨x46, (show xe_c .eq (nI a) (nI b) = false by rw [xc_eq, nne_t (by omega) (by omega) z]; rfl), trivial⟩ (fun _ => ?_)
      rw [nI_clamp (by omega), nI_clamp (by omega), J.2.2.2.2.2 b hbC, J.2.2.2.2.2 a ha]
      refine xq_run hq rfl rfl (hel_q J.1 m12 (fsq1 ha).1 (fsq1 hbC).1 hq) ?_
      rintro v h1 ⟨rfl, rfl⟩
      have hd := hdvw1 (o := aln (gp W (fs W m a) (fs W m b)) (2 ^ m)) (u := aln (gp W (fs W m b) (fs W m a)) (2 ^ m))
      have es : (aln (gp W (fs W m a) (fs W m b)) (2 ^ m) && !aln (gp W (fs W m b) (fs W m a)) (2 ^ m)) = decide (sg W m b < sg W m a) := stg_l L (fsq1 ha).1 (fsq1 hbC).1
      rw [es] at hd
      cases c : decide (sg W m b < sg W m a) with
      | true =>
        rw [c] at hd
        refine xq_n 156 [0, 1, 2] [(0, .ref 39), (1, .int (nI a)), (2, .int (nI b + Int32.ofInt 1))] [] (xh_ui h 61 (12 * nI a + nI b).toNatClampNeg (vp_nar .boolean (Int32.ofInt 1))) [false] 60 hq rfl ⟨hd, trivial⟩ (fun _ => ?_)
        rw [nI_1', ix]
        exact ih f (b + 1) _ (by omega) (a_rq_ui hq) (fsJ_w J) (iaI_w m12 ha hbC I (by rw [c]; rfl))
      | false =>
        rw [c] at hd
        refine xq_n 156 [0, 1, 2] [(0, .ref 39), (1, .int (nI a)), (2, .int (nI b + Int32.ofInt 1))] [] (xh_ui h 61 (12 * nI a + nI b).toNatClampNeg (vp_nar .boolean (Int32.ofInt 0))) [true] 60 hq rfl ⟨hd, trivial⟩ (fun _ => ?_)
        rw [nI_1', ix]
        exact ih f (b + 1) _ (by omega) (a_rq_ui hq) (fsJ_w J) (iaI_w m12 ha hbC I (by rw [c]; rfl))
set_option maxRecDepth 100000 in
set_option maxHeartbeats 4000000 in
theorem fsb_l {hb : xh_H} (m12 : m ≤ 12) (L : Ln W m) : ∀ (j f a : Nat) (h : xh_H), a + j = nC W m → a_rq a_tb h → fsJ W m hb h → iaI W m a 0 h → xq f xi_X10_findSorts xmi_X10_findSorts 146 [(0, .ref 39), (1, .int (nI a))] [] h (fun v h' => v = none ∧ fsJ W m hb h' ∧ iaI W m (nC W m) 0 h') := by
  have cm := nC_m (W := W) (m := m)
  have cm' : cnt (isf W m) m ≤ m := cm
  intro j
  induction j with
  | zero =>
    intro f a h aj hq J I
    have e : a = nC W m := by omega
    refine xq_n 217 [] [] [] h [true] 60 hq rfl ⟨(show xe_c .ge (nI a) (xg 0 h.2.1 39 46) = true by rw [J.2.2.1, e]; exact nge_t (by omega) (by omega) (Nat.le_refl _)), trivial⟩ (fun _ => ?_)
    exact xq_ret rfl rfl rfl ⟨rfl, J, by rw [← e]; exact I⟩
  | succ j ih =>
    intro f a h aj hq J I
    refine xq_n 156 [0, 1, 2] [(0, .ref 39), (1, .int (nI a)), (2, .int (Int32.ofInt 0))] [] h [false] 60 hq rfl ⟨(show xe_c .ge (nI a) (xg 0 h.2.1 39 46) = false by rw [J.2.2.1]; exact nge_f (by omega) (by omega) (show a < nC W m by omega)), trivial⟩ (fun _ => ?_)
    exact fsb_in m12 L (show a < nC W m by omega) (fun f h hq J I => ih f (a + 1) h (by omega) hq J I) (nC W m) f 0 h (by omega) hq J I
set_option maxRecDepth 100000 in
set_option maxHeartbeats 4000000 in
/-- X10.findSorts -/
theorem fso_q {f : Nat} {hb : xh_H} (m12 : m ≤ 12) (L : Ln W m) (A : RA W m hb) (hq : a_rq a_tb hb) : xq f xi_X10_findSorts xmi_X10_findSorts 0 [(0, .ref 39)] [] hb (fun v h' => v = none ∧ fsJ W m hb h' ∧ iaI W m (nC W m) 0 h') := by
  refine xq_n 7 [0, 1] [(0, .ref 39), (1, .int (Int32.ofInt 0))] [] (xh_ui hb 39 46 (Int32.ofInt 0)) [] 60 hq rfl trivial (fun _ => ?_)
  have g1 : fx FS fN hb (xh_ui hb 39 46 (Int32.ofInt 0)) := fx_ui fx_0 rfl
  refine fso_l (hb := hb) m12 (fun f h hq A ge I => ?_) m f 0 _ (by omega) (a_rq_ui hq) (RA_f A g1 rfl rfl (fun _ => rfl)) g1 ⟨gx_s, fun a ha => absurd ha (Nat.not_lt_zero _), fun c hc => absurd hc (Nat.not_lt_zero _), fun c hc => absurd hc (Nat.not_lt_zero _)⟩
  refine xq_n 146 [0, 1] [(0, .ref 39), (1, .int (Int32.ofInt 0))] [] h [] 60 hq rfl trivial (fun _ => ?_)
  exact fsb_l m12 L (nC W m) f 0 h (by omega) hq ⟨A, ge, I⟩ (fun a' b' _ _ l => by omega)
/-! the ends -/
def FE (c k : Nat) : Bool := Nat.beq c 59 || (Nat.beq c 60 || (Nat.beq c 39 && (Nat.beq k 47 || Nat.beq k 48)))
def e1I (W : Nat → Bool) (m n : Nat) (h : xh_H) : Prop := xg 0 h.2.1 39 47 = nI (cnt (mi W m false) n) ∧ ∀ t, t < n → mi W m false t = true → xg 0 h.2.1 59 (cnt (mi W m false) t) = nI t
def e2I (W : Nat → Bool) (m n : Nat) (h : xh_H) : Prop := xg 0 h.2.1 39 48 = nI (cnt (mi W m true) n) ∧ ∀ t, t < n → mi W m true t = true → xg 0 h.2.1 60 (cnt (mi W m true) t) = nI (co m t)
set_option maxRecDepth 100000 in
set_option maxHeartbeats 8000000 in
theorem fen_2 {hb : xh_H} (m12 : m ≤ 12) {n : Nat} (hn : n < 2 ^ m) {Q : Option Value → xh_H → Prop} (K : ∀ (f : Nat) (h : xh_H), a_rq a_tb h → RA W m h → fx FE fN hb h → e1I W m (n + 1) h → e2I W m (n + 1) h → xq f xi_X10_findEnds xmi_X10_findEnds 12 [(0, .ref 39), (1, .int (nI (n + 1)))] [] h Q) {f : Nat} {h : xh_H} (hq : a_rq a_tb h) (A : RA W m h) (ge : fx FE fN hb h) (I1 : e1I W m (n + 1) h) (I2 : e2I W m n h) : xq f xi_X10_findEnds xmi_X10_findEnds 48 [(0, .ref 39), (1, .int (nI n))] [] h Q := by
  have p12 : 2 ^ m ≤ 4096 := show 2 ^ m ≤ 2 ^ 12 from Nat.pow_le_pow_right (by decide) m12
  have cl := cnt_le (P := mi W m true) n
  refine xq_n 50 [0, 1] [(0, .ref 39), (1, .int (nI n))] [.int (nI n), .ref 39] h [] 60 hq rfl trivial (fun _ => ?_)
  refine xq_run hq rfl rfl (rlh_q A m12 hn hq) ?_
  rintro v h1 ⟨rfl, rfl⟩
  obtain ⟨i1, i2⟩ := I2
  cases c : mi W m true n with
  | false =>
    refine xq_n 12 [0, 1] [(0, .ref 39), (1, .int (nI n + Int32.ofInt 1))] [] h [true] 60 hq rfl ⟨rfl, trivial⟩ (fun _ => ?_)
    rw [nI_1']
    refine K f h hq A ge I1 ⟨by rw [cnt_f c]; exact i1, fun t ht p => i2 t ?_ p⟩
    by_cases z : t = n
    · rw [z, c] at p; cases p
    · omega
  | true =>
    refine xq_n 75 [0, 1] [(0, .ref 39), (1, .int (nI n))] [] (xh_ui h 60 (xg 0 h.2.1 39 48).toNatClampNeg (xg 0 h.2.1 39 35 - Int32.ofInt 1 &&& (nI n ^^^ Int32.ofInt (-1)))) [false] 60 hq rfl ⟨rfl, trivial⟩ (fun _ => ?_)
    rw [i1, nI_clamp (by omega), A.2.1, nI_dec1 (Nat.one_le_two_pow), coc_n m12 hn]
    have hq : a_rq a_tb (xh_ui h 60 (cnt (mi W m true) n) (nI (co m n))) := a_rq_ui hq
    refine xq_n 12 [0, 1] [(0, .ref 39), (1, .int (nI n + Int32.ofInt 1))] [] (xh_ui (xh_ui h 60 (cnt (mi W m true) n) (nI (co m n))) 39 48 (xg 0 (xh_ui h 60 (cnt (mi W m true) n) (nI (co m n))).2.1 39 48 + Int32.ofInt 1)) [] 60 hq rfl trivial (fun _ => ?_)
    rw [gx_o (c := 60) (c' := 39) (by decide), i1, nI_1', nI_1']
    have g1 : fx FE fN h (xh_ui (xh_ui h 60 (cnt (mi W m true) n) (nI (co m n))) 39 48 (nI (cnt (mi W m true) n + 1))) := fx_ui (fx_ui fx_0 rfl) rfl
    refine K f _ (a_rq_ui hq) (RA_f A g1 rfl rfl (fun _ => rfl)) (fx_t ge g1) ⟨(gx_k (by decide)).trans ((gx_o (by decide)).trans I1.1), fun t ht p => (gx_o (by decide)).trans ((gx_o (by decide)).trans (I1.2 t ht p))⟩ ⟨by rw [cnt_t c]; exact gx_s, fun t ht p => ?_⟩
    rw [gx_o (by decide), gx_if]
    by_cases z : t = n
    · rw [if_pos (by rw [z]), z]
    · rw [if_neg (fun e => z (cnt_in p c e))]
      exact i2 t (by omega) p
set_option maxRecDepth 100000 in
set_option maxHeartbeats 8000000 in
/-- X10.findEnds -/
theorem fen_l {hb : xh_H} (m12 : m ≤ 12) : ∀ (j f n : Nat) (h : xh_H), n + j = 2 ^ m → a_rq a_tb h → RA W m h → fx FE fN hb h → e1I W m n h → e2I W m n h → xq f xi_X10_findEnds xmi_X10_findEnds 12 [(0, .ref 39), (1, .int (nI n))] [] h (fun v h' => v = none ∧ RA W m h' ∧ fx FE fN hb h' ∧ e1I W m (2 ^ m) h' ∧ e2I W m (2 ^ m) h') := by
  have p12 : 2 ^ m ≤ 4096 := show 2 ^ m ≤ 2 ^ 12 from Nat.pow_le_pow_right (by decide) m12
  intro j
  induction j with
  | zero =>
    intro f n h nj hq A ge I1 I2
    have e : n = 2 ^ m := by omega
    subst e
    refine xq_n 91 [] [] [] h [true] 60 hq rfl ⟨rgt A m12, trivial⟩ (fun _ => ?_)
    exact xq_ret rfl rfl rfl ⟨rfl, A, ge, I1, I2⟩
  | succ j ih =>
    intro f n h nj hq A ge I1 I2
    have hn : n < 2 ^ m := by omega
    have cl := cnt_le (P := mi W m false) n
    refine xq_n 22 [0, 1] [(0, .ref 39), (1, .int (nI n))] [.int (nI n), .ref 39] h [false] 60 hq rfl ⟨rgf A m12 hn, trivial⟩ (fun _ => ?_)
    refine xq_run hq rfl rfl (rle_q A m12 hn hq) ?_
    rintro v h1 ⟨rfl, rfl⟩
    obtain ⟨i1, i2⟩ := I1
    have K := fun (f : Nat) (h : xh_H) (hq : a_rq a_tb h) (A : RA W m h) (ge : fx FE fN hb h) (I1 : e1I W m (n + 1) h) (I2 : e2I W m (n + 1) h) => ih f (n + 1) h (by omega) hq A ge I1 I2
    cases c : mi W m false n with
    | false =>
      refine xq_n 48 [0, 1] [(0, .ref 39), (1, .int (nI n))] [] h [true] 60 hq rfl ⟨rfl, trivial⟩ (fun _ => ?_)
      refine fen_2 m12 hn K hq A ge ⟨by rw [cnt_f c]; exact i1, fun t ht p => i2 t ?_ p⟩ I2
      by_cases z : t = n
      · rw [z, c] at p; cases p
      · omega
    | true =>
      refine xq_n 38 [0, 1] [(0, .ref 39), (1, .int (nI n))] [] (xh_ui h 59 (xg 0 h.2.1 39 47).toNatClampNeg (nI n)) [false] 60 hq rfl ⟨rfl, trivial⟩ (fun _ => ?_)
      rw [i1, nI_clamp (by omega)]
      have hq : a_rq a_tb (xh_ui h 59 (cnt (mi W m false) n) (nI n)) := a_rq_ui hq
      refine xq_n 48 [0, 1] [(0, .ref 39), (1, .int (nI n))] [] (xh_ui (xh_ui h 59 (cnt (mi W m false) n) (nI n)) 39 47 (xg 0 (xh_ui h 59 (cnt (mi W m false) n) (nI n)).2.1 39 47 + Int32.ofInt 1)) [] 60 hq rfl trivial (fun _ => ?_)
      rw [gx_o (c := 59) (c' := 39) (by decide), i1, nI_1']
      have g1 : fx FE fN h (xh_ui (xh_ui h 59 (cnt (mi W m false) n) (nI n)) 39 47 (nI (cnt (mi W m false) n + 1))) := fx_ui (fx_ui fx_0 rfl) rfl
      refine fen_2 m12 hn K (a_rq_ui hq) (RA_f A g1 rfl rfl (fun _ => rfl)) (fx_t ge g1) ⟨by rw [cnt_t c]; exact gx_s, fun t ht p => ?_⟩ ⟨(gx_k (by decide)).trans ((gx_o (by decide)).trans I2.1), fun t ht p => (gx_o (by decide)).trans ((gx_o (by decide)).trans (I2.2 t ht p))⟩
      rw [gx_o (by decide), gx_if]
      by_cases z : t = n
      · rw [if_pos (by rw [z]), z]
      · rw [if_neg (fun e => z (cnt_in p c e))]
        exact i2 t (by omega) p
theorem fen_q {f : Nat} {hb : xh_H} (m12 : m ≤ 12) (A : RA W m hb) (hq : a_rq a_tb hb) : xq f xi_X10_findEnds xmi_X10_findEnds 0 [(0, .ref 39)] [] hb (fun v h' => v = none ∧ RA W m h' ∧ fx FE fN hb h' ∧ e1I W m (2 ^ m) h' ∧ e2I W m (2 ^ m) h') := by
  refine xq_n 12 [0, 1] [(0, .ref 39), (1, .int (Int32.ofInt 0))] [] (xh_ui (xh_ui hb 39 47 (Int32.ofInt 0)) 39 48 (Int32.ofInt 0)) [] 60 hq rfl trivial (fun _ => ?_)
  have g1 : fx FE fN hb (xh_ui (xh_ui hb 39 47 (Int32.ofInt 0)) 39 48 (Int32.ofInt 0)) := fx_ui (fx_ui fx_0 rfl) rfl
  exact fen_l m12 (2 ^ m) f 0 _ (by omega) (a_rq_ui (a_rq_ui hq)) (RA_f A g1 rfl rfl (fun _ => rfl)) g1 ⟨(gx_k (by decide)).trans gx_s, fun t ht => absurd ht (Nat.not_lt_zero _)⟩ ⟨gx_s, fun t ht => absurd ht (Nat.not_lt_zero _)⟩
end
end XWD
end
section
section XWE
section
variable {W : Nat → Bool} {m : Nat} {h : xh_H} {g : Nat → Nat}
/-- what the reference has found ahead of its search -/
def RSt (W : Nat → Bool) (m : Nat) (h : xh_H) : Prop := RA W m h ∧ fsI W m m h ∧ iaI W m (nC W m) 0 h ∧ e1I W m (2 ^ m) h ∧ e2I W m (2 ^ m) h
def FT (c k : Nat) : Bool := Nat.beq c 57 || (Nat.beq c 39 && (Nat.beq k 49 || Nat.beq k 50))
def F50 (c k : Nat) : Bool := Nat.beq c 39 && Nat.beq k 50
theorem F50_T {h h' : xh_H} (g : fx F50 fN h h') : fx FT fN h h' := fx_w g (fun c k e => by
  unfold FT at e
  unfold F50
  rw [Bool.or_eq_false_iff] at e
  cases c1 : Nat.beq c 39 with
  | false => rfl
  | true =>
    rw [c1, Bool.true_and, Bool.or_eq_false_iff] at e
    exact e.2.2) (fun _ _ e => e)
theorem RSt_f {h' : xh_H} (R : RSt W m h) (f : fx FT fN h h') : RSt W m h' := by
  obtain ⟨A, ⟨i1, i2, i3, i4⟩, ia, ⟨e1, e2⟩, e3, e4⟩ := R
  exact ⟨RA_f A f rfl rfl (fun _ => rfl), ⟨(fx_i f rfl).trans i1, fun a ha => (fx_i f rfl).trans (i2 a ha), fun c hc => (fx_i f rfl).trans (i3 c hc), fun c hc => (fx_i f rfl).trans (i4 c hc)⟩, fun a b ha hb l => (fx_i f rfl).trans (ia a b ha hb l), ⟨(fx_i f rfl).trans e1, fun t ht p => (fx_i f rfl).trans (e2 t ht p)⟩, (fx_i f rfl).trans e3, fun t ht p => (fx_i f rfl).trans (e4 t ht p)⟩
/-- the weights given so far -/
def gvn (k : Nat) (g : Nat → Nat) (h : xh_H) : Prop := ∀ c, c < k → xg 0 h.2.1 57 c = nI (g c) ∧ g c ≤ 100
theorem wtg_b {S : Nat} (gb : ∀ c, c < nC W m → g c ≤ 100) : ∀ n, n ≤ m → sm (fun a => if S.testBit a = true then g (cl W m a) else 0) n ≤ n * 100 := fun n hn => sm_le n (fun a ha => by
  by_cases z : S.testBit a = true
  · rw [if_pos z]; exact gb _ (cl_lt (by omega))
  · rw [if_neg z]; omega)
set_option maxRecDepth 100000 in
set_option maxHeartbeats 4000000 in
/-- X10.sumOf -/
theorem smo_l {S : Nat} (R : RSt W m h) (G : gvn (nC W m) g h) (m12 : m ≤ 12) (hS : S < 2 ^ m) (hq : a_rq a_tb h) : ∀ (n f a : Nat), a + n = m → xq f xi_X10_sumOf xmi_X10_sumOf 4 [(0, .ref 39), (1, .int (nI S)), (2, .int (nI (sm (fun a => if S.testBit a = true then g (cl W m a) else 0) a))), (3, .int (nI a))] [] h (fun v h' => h = h' ∧ v = some (.int (nI (wtg W m g S)))) := by
  intro n
  induction n with
  | zero =>
    intro f a hn
    have e : a = m := by omega
    subst e
    refine xq_n 42 [] [] [.int (nI (sm (fun b => if S.testBit b = true then g (cl W a b) else 0) a))] h [true] 60 hq rfl ⟨(show xe_c .ge (nI a) (xg 0 h.2.1 39 4) = true by rw [R.1.1]; exact nge_t (by omega) (by omega) (Nat.le_refl _)), trivial⟩ (fun _ => ?_)
    exact xq_ret rfl rfl rfl ⟨rfl, rfl⟩
  | succ n ih =>
    intro f a hn
    have x0 : xe_c .ge (nI a) (xg 0 h.2.1 39 4) = false := by rw [R.1.1]; exact nge_f (by omega) (by omega) (by omega)
    have eb := rb0 m12 hS (show a < m by omega)
    have r := ih f (a + 1) (by omega)
    rw [show sm (fun a => if S.testBit a = true then g (cl W m a) else 0) (a + 1) = sm (fun a => if S.testBit a = true then g (cl W m a) else 0) a + (if S.testBit a = true then g (cl W m a) else 0) from rfl] at r
    have c12 := nC_m (W := W) (m := m)
    have cl' := cl_lt (W := W) (show a < m by omega)
    cases c : S.testBit a with
    | false =>
      rw [c, if_neg (by decide), Nat.add_zero] at r
      refine xq_n 4 [0, 1, 2, 3] [(0, .ref 39), (1, .int (nI S)), (2, .int (nI (sm (fun a => if S.testBit a = true then g (cl W m a) else 0) a))), (3, .int (nI a + Int32.ofInt 1))] [] h [false, true] 60 hq rfl ⟨x0, (show xe_c .ne ((nI S >>> (nI a &&& 31)) &&& Int32.ofInt 1) (Int32.ofInt 1) = true by rw [eb, c]; rfl), trivial⟩ (fun _ => ?_)
      rw [nI_1']
      exact r
    | true =>
      rw [c, if_pos rfl] at r
      refine xq_n 4 [0, 1, 2, 3] [(0, .ref 39), (1, .int (nI S)), (2, .int (nI (sm (fun a => if S.testBit a = true then g (cl W m a) else 0) a) + xg 0 h.2.1 57 (xg 0 h.2.1 54 (nI a).toNatClampNeg).toNatClampNeg)), (3, .int (nI a + Int32.ofInt 1))] [] h [false, false] 60 hq rfl ⟨x0, (show xe_c .ne ((nI S >>> (nI a &&& 31)) &&& Int32.ofInt 1) (Int32.ofInt 1) = false by rw [eb, c]; rfl), trivial⟩ (fun _ => ?_)
      rw [nI_1', nI_clamp (by omega), R.2.1.2.1 a (by omega), nI_clamp (by omega), (G _ cl').1, nI_ad]
      exact r
theorem smo_q {f S : Nat} (R : RSt W m h) (G : gvn (nC W m) g h) (m12 : m ≤ 12) (hS : S < 2 ^ m) (hq : a_rq a_tb h) : xq f xi_X10_sumOf xmi_X10_sumOf 0 [(0, .ref 39), (1, .int (nI S))] [] h (fun v h' => h = h' ∧ v = some (.int (nI (wtg W m g S)))) := by
  refine xq_n 4 [0, 1, 2, 3] [(0, .ref 39), (1, .int (nI S)), (2, .int (Int32.ofInt 0)), (3, .int (Int32.ofInt 0))] [] h [] 60 hq rfl trivial (fun _ => ?_)
  exact smo_l R G m12 hS hq m f 0 (by omega)
theorem wtg_co {S : Nat} (hS : S < 2 ^ m) : wtg W m g (co m S) + wtg W m g S = sm (fun a => g (cl W m a)) m := by
  unfold wtg
  rw [← sm_a]
  refine sm_c m (fun a ha => ?_)
  rw [co_tb hS, decide_eq_true ha]
  cases S.testBit a
  · rw [if_pos (by decide), if_neg (by decide)]; omega
  · rw [if_neg (by decide), if_pos rfl]; omega
set_option maxRecDepth 100000 in
set_option maxHeartbeats 4000000 in
/-- X10.isRight, the heaviest that don't carry -/
theorem isr_b {s lo : Nat} (R : RSt W m h) (G : gvn (nC W m) g h) (m12 : m ≤ 12) (hs : s = sm (fun a => g (cl W m a)) m) (l1 : ∀ t, t < 2 ^ m → mi W m false t = true → lo ≤ wtg W m g t) (l2 : lo = 100000 ∨ ∃ t, t < 2 ^ m ∧ mi W m false t = true ∧ lo = wtg W m g t) (l3 : lo ≤ 100000) (hq : a_rq a_tb h) : ∀ (n f k : Nat), k + n = cnt (mi W m true) (2 ^ m) → (∀ t, t < 2 ^ m → mi W m true t = true → cnt (mi W m true) t < k → wtg W m g (co m t) < lo) → xq f xi_X10_isRight xmi_X10_isRight 40 [(0, .ref 39), (1, .int (nI lo)), (2, .int (nI k))] [] h (fun v h' => fx F50 fN h h' ∧ v = some (.int (bl (rgt' W m s g)))) := by
  have p12 : 2 ^ m ≤ 4096 := show 2 ^ m ≤ 2 ^ 12 from Nat.pow_le_pow_right (by decide) m12
  have ml := cnt_le (P := mi W m true) (2 ^ m)
  intro n
  induction n with
  | zero =>
    intro f k hn w
    refine xq_n 76 [] [] [.int (Int32.ofInt 1)] (xh_ui h 39 50 (nI lo)) [true] 60 hq rfl ⟨(show xe_c .ge (nI k) (xg 0 h.2.1 39 48) = true by rw [R.2.2.2.2.1]; exact nge_t (by omega) (by omega) (by omega)), trivial⟩ (fun _ => ?_)
    refine xq_ret rfl rfl rfl ⟨fx_ui fx_0 rfl, ?_⟩
    rw [rgt_i (fun L H hL hH pL pH => ?_)]
    · rfl
    · have a := w H hH pH (by have := cnt_lt pH hH; omega)
      have b := l1 L hL pL
      have c := wtg_co (W := W) (g := g) hH
      omega
  | succ n ih =>
    intro f k hn w
    obtain ⟨t, t1, t2, t3⟩ := cnt_sur (P := mi W m true) (j := k) (2 ^ m) (by omega)
    refine xq_n 55 [0, 1, 2] [(0, .ref 39), (1, .int (nI lo)), (2, .int (nI k))] [.int (xg 0 h.2.1 60 (nI k).toNatClampNeg), .ref 39] h [false] 60 hq rfl ⟨(show xe_c .ge (nI k) (xg 0 h.2.1 39 48) = false by rw [R.2.2.2.2.1]; exact nge_f (by omega) (by omega) (by omega)), trivial⟩ (fun _ => ?_)
    rw [nI_clamp (by omega), ← t3, R.2.2.2.2.2 t t1 t2]
    refine xq_run hq rfl rfl (smo_q R G m12 co_lt hq) ?_
    rintro v h1 ⟨rfl, rfl⟩
    have wb : wtg W m g (co m t) ≤ m * 100 := wtg_b (fun c hc => (G c hc).2) m (Nat.le_refl _)
    by_cases z : wtg W m g (co m t) < lo
    · refine xq_n 40 [0, 1, 2] [(0, .ref 39), (1, .int (nI lo)), (2, .int (nI (cnt (mi W m true) t) + Int32.ofInt 1))] [] h [true] 60 hq rfl ⟨nlt_t (by omega) (by omega) z, trivial⟩ (fun _ => ?_)
      rw [nI_1', t3]
      refine ih f (k + 1) (by omega) (fun t' ht' p' l => ?_)
      by_cases y : cnt (mi W m true) t' = k
      · rw [cnt_in p' t2 (by omega)]; exact z
      · exact w t' ht' p' (by omega)
    · refine xq_n 63 [] [] [.int (Int32.ofInt 0)] h [false] 60 hq rfl ⟨nlt_f (by omega) (by omega) (by omega), trivial⟩ (fun _ => ?_)
      refine xq_ret rfl rfl rfl ⟨fx_0, ?_⟩
      rcases l2 with l2 | ⟨L, L1, L2, L3⟩
      · omega
      · have c := wtg_co (W := W) (g := g) t1
        rw [rgt_f L1 t1 L2 t2 (by omega)]
        rfl
set_option maxRecDepth 100000 in
set_option maxHeartbeats 4000000 in
/-- X10.isRight, the lightest that carry -/
theorem isr_a {s : Nat} (R : RSt W m h) (G : gvn (nC W m) g h) (m12 : m ≤ 12) (hs : s = sm (fun a => g (cl W m a)) m) (hq : a_rq a_tb h) : ∀ (n f k lo : Nat), k + n = cnt (mi W m false) (2 ^ m) → (∀ t, t < 2 ^ m → mi W m false t = true → cnt (mi W m false) t < k → lo ≤ wtg W m g t) → (lo = 100000 ∨ ∃ t, t < 2 ^ m ∧ mi W m false t = true ∧ lo = wtg W m g t) → lo ≤ 100000 → xq f xi_X10_isRight xmi_X10_isRight 6 [(0, .ref 39), (1, .int (nI lo)), (2, .int (nI k))] [] h (fun v h' => fx F50 fN h h' ∧ v = some (.int (bl (rgt' W m s g)))) := by
  have p12 : 2 ^ m ≤ 4096 := show 2 ^ m ≤ 2 ^ 12 from Nat.pow_le_pow_right (by decide) m12
  have ml := cnt_le (P := mi W m false) (2 ^ m)
  intro n
  induction n with
  | zero =>
    intro f k lo hn w l2 l3
    refine xq_n 40 [0, 1, 2] [(0, .ref 39), (1, .int (nI lo)), (2, .int (Int32.ofInt 0))] [] h [true] 60 hq rfl ⟨(show xe_c .ge (nI k) (xg 0 h.2.1 39 47) = true by rw [R.2.2.2.1.1]; exact nge_t (by omega) (by omega) (by omega)), trivial⟩ (fun _ => ?_)
    exact isr_b R G m12 hs (fun t ht p => w t ht p (by have := cnt_lt p ht; omega)) l2 l3 hq _ f 0 (Nat.zero_add _) (fun t _ _ l => absurd l (Nat.not_lt_zero _))
  | succ n ih =>
    intro f k lo hn w l2 l3
    obtain ⟨t, t1, t2, t3⟩ := cnt_sur (P := mi W m false) (j := k) (2 ^ m) (by omega)
    refine xq_n 21 [0, 1, 2] [(0, .ref 39), (1, .int (nI lo)), (2, .int (nI k))] [.int (xg 0 h.2.1 59 (nI k).toNatClampNeg), .ref 39] h [false] 60 hq rfl ⟨(show xe_c .ge (nI k) (xg 0 h.2.1 39 47) = false by rw [R.2.2.2.1.1]; exact nge_f (by omega) (by omega) (by omega)), trivial⟩ (fun _ => ?_)
    rw [nI_clamp (by omega), ← t3, R.2.2.2.1.2 t t1 t2]
    refine xq_run hq rfl rfl (smo_q R G m12 t1 hq) ?_
    rintro v h1 ⟨rfl, rfl⟩
    have wb : wtg W m g t ≤ m * 100 := wtg_b (fun c hc => (G c hc).2) m (Nat.le_refl _)
    by_cases z : wtg W m g t < lo
    · refine xq_n 6 [0, 1, 2] [(0, .ref 39), (1, .int (nI (wtg W m g t))), (2, .int (nI (cnt (mi W m false) t) + Int32.ofInt 1))] [] h [false] 60 hq rfl ⟨nge_f (by omega) (by omega) z, trivial⟩ (fun _ => ?_)
      rw [nI_1', t3]
      refine ih f (k + 1) _ (by omega) (fun t' ht' p' l => ?_) (Or.inr ⟨t, t1, t2, rfl⟩) (by omega)
      by_cases y : cnt (mi W m false) t' = k
      · rw [cnt_in p' t2 (by omega)]; exact Nat.le_refl _
      · have := w t' ht' p' (by omega); omega
    · refine xq_n 6 [0, 1, 2] [(0, .ref 39), (1, .int (nI lo)), (2, .int (nI (cnt (mi W m false) t) + Int32.ofInt 1))] [] h [true] 60 hq rfl ⟨nge_t (by omega) (by omega) (by omega), trivial⟩ (fun _ => ?_)
      rw [nI_1', t3]
      refine ih f (k + 1) lo (by omega) (fun t' ht' p' l => ?_) l2 l3
      by_cases y : cnt (mi W m false) t' = k
      · rw [cnt_in p' t2 (by omega)]; omega
      · exact w t' ht' p' (by omega)
theorem isr_q {f s : Nat} (R : RSt W m h) (G : gvn (nC W m) g h) (m12 : m ≤ 12) (hs : s = sm (fun a => g (cl W m a)) m) (hq : a_rq a_tb h) : xq f xi_X10_isRight xmi_X10_isRight 0 [(0, .ref 39)] [] h (fun v h' => fx F50 fN h h' ∧ v = some (.int (bl (rgt' W m s g)))) := by
  refine xq_n 6 [0, 1, 2] [(0, .ref 39), (1, .int 100000), (2, .int (Int32.ofInt 0))] [] h [] 60 hq rfl trivial (fun _ => ?_)
  exact isr_a R G m12 hs hq _ f 0 100000 (Nat.zero_add _) (fun t _ _ l => absurd l (Nat.not_lt_zero _)) (Or.inl rfl) (Nat.le_refl _)
theorem ia_x {a b : Nat} (R : RSt W m h) (m12 : m ≤ 12) (ha : a < nC W m) (hb : b < nC W m) : xg 0 h.2.1 61 (12 * nI a + nI b).toNatClampNeg = bl (decide (sg W m b < sg W m a)) := by
  have := nC_m (W := W) (m := m)
  rw [show (12 : Int32) = nI 12 from rfl, nI_ml, nI_ad, nI_clamp (by omega)]
  exact R.2.2.1 a b ha hb (Or.inl ha)
set_option maxRecDepth 100000 in
set_option maxHeartbeats 4000000 in
/-- X10.mayBe -/
theorem may_l {k v : Nat} (R : RSt W m h) (G : gvn k g h) (m12 : m ≤ 12) (hk : k < nC W m) (v1 : v ≤ 100) (hq : a_rq a_tb h) : ∀ (n f i : Nat), i + n = k → aln (fun i => (!decide (sg W m k < sg W m i) || decide (v < g i)) && (!decide (sg W m i < sg W m k) || decide (g i < v))) i = true → xq f xi_X10_mayBe xmi_X10_mayBe 2 [(0, .ref 39), (1, .int (nI k)), (2, .int (nI v)), (3, .int (nI i))] [] h (fun w h' => h = h' ∧ w = some (.int (bl (mayb (sg W m) g k v)))) := by
  have c12 := nC_m (W := W) (m := m)
  intro n
  induction n with
  | zero =>
    intro f i hn w
    have e : i = k := by omega
    subst e
    refine xq_n 66 [] [] [.int (Int32.ofInt 1)] h [true] 60 hq rfl ⟨nge_t (by omega) (by omega) (Nat.le_refl _), trivial⟩ (fun _ => ?_)
    exact xq_ret rfl rfl rfl ⟨rfl, by unfold mayb; rw [w]; rfl⟩
  | succ n ih =>
    intro f i hn w
    have g0 : xe_c .ge (nI i) (nI k) = false := nge_f (by omega) (by omega) (by omega)
    obtain ⟨gi, gb⟩ := G i (by omega)
    have ci : (nI i).toNatClampNeg = i := nI_clamp (by omega)
    have g1 := be' (ia_x R m12 (show i < nC W m by omega) hk)
    have g2 := be' (ia_x R m12 hk (show i < nC W m by omega))
    have e1 : xe_c .gt (xg 0 h.2.1 57 (nI i).toNatClampNeg) (nI v) = decide (v < g i) := by
      rw [ci, gi]
      by_cases z : v < g i
      · rw [decide_eq_true z]; exact ngt_t (by omega) (by omega) z
      · rw [decide_eq_false z]; exact ngt_f (by omega) (by omega) (by omega)
    have e2 : xe_c .gt (nI v) (xg 0 h.2.1 57 (nI i).toNatClampNeg) = decide (g i < v) := by
      rw [ci, gi]
      by_cases z : g i < v
      · rw [decide_eq_true z]; exact ngt_t (by omega) (by omega) z
      · rw [decide_eq_false z]; exact ngt_f (by omega) (by omega) (by omega)
    have fin : ∀ b : Bool, ((!decide (sg W m k < sg W m i) || decide (v < g i)) && (!decide (sg W m i < sg W m k) || decide (g i < v))) = b → (b = true → xq f xi_X10_mayBe xmi_X10_mayBe 2 [(0, .ref 39), (1, .int (nI k)), (2, .int (nI v)), (3, .int (nI i + Int32.ofInt 1))] [] h (fun w h' => h = h' ∧ w = some (.int (bl (mayb (sg W m) g k v))))) ∧ (b = false → some (Value.int (Int32.ofInt 0)) = some (.int (bl (mayb (sg W m) g k v)))) := fun b e => ⟨fun z => by
      rw [nI_1']
      exact ih f (i + 1) (by omega) (aln_s w (e.trans z)), fun z => by
      rw [show mayb (sg W m) g k v = false from aln_f (e.trans z) k (by omega)]
      rfl⟩
    cases c1 : decide (sg W m k < sg W m i) with
    | false =>
      rw [c1] at g1
      cases c2 : decide (sg W m i < sg W m k) with
      | false =>
        rw [c2] at g2
        refine xq_n 2 [0, 1, 2, 3] [(0, .ref 39), (1, .int (nI k)), (2, .int (nI v)), (3, .int (nI i + Int32.ofInt 1))] [] h [false, true, true] 60 hq rfl ⟨g0, g1, g2, trivial⟩ (fun _ => ?_)
        exact (fin true (by rw [c1, c2]; rfl)).1 rfl
      | true =>
        rw [c2] at g2
        cases c3 : decide (g i < v) with
        | true =>
          rw [c3] at e2
          refine xq_n 2 [0, 1, 2, 3] [(0, .ref 39), (1, .int (nI k)), (2, .int (nI v)), (3, .int (nI i + Int32.ofInt 1))] [] h [false, true, false, true] 60 hq rfl ⟨g0, g1, g2, e2, trivial⟩ (fun _ => ?_)
          exact (fin true (by rw [c1, c2, c3]; rfl)).1 rfl
        | false =>
          rw [c3] at e2
          refine xq_n 58 [] [] [.int (Int32.ofInt 0)] h [false, true, false, false] 60 hq rfl ⟨g0, g1, g2, e2, trivial⟩ (fun _ => ?_)
          exact xq_ret rfl rfl rfl ⟨rfl, (fin false (by rw [c1, c2, c3]; rfl)).2 rfl⟩
    | true =>
      rw [c1] at g1
      have c2 : decide (sg W m i < sg W m k) = false := decide_eq_false (by have := of_decide_eq_true c1; omega)
      rw [c2] at g2
      cases c3 : decide (v < g i) with
      | true =>
        rw [c3] at e1
        refine xq_n 2 [0, 1, 2, 3] [(0, .ref 39), (1, .int (nI k)), (2, .int (nI v)), (3, .int (nI i + Int32.ofInt 1))] [] h [false, false, true, true] 60 hq rfl ⟨g0, g1, e1, g2, trivial⟩ (fun _ => ?_)
        exact (fin true (by rw [c1, c2, c3]; rfl)).1 rfl
      | false =>
        rw [c3] at e1
        refine xq_n 32 [] [] [.int (Int32.ofInt 0)] h [false, false, false] 60 hq rfl ⟨g0, g1, e1, trivial⟩ (fun _ => ?_)
        exact xq_ret rfl rfl rfl ⟨rfl, (fin false (by rw [c1, c2, c3]; rfl)).2 rfl⟩
theorem may_q {f k v : Nat} (R : RSt W m h) (G : gvn k g h) (m12 : m ≤ 12) (hk : k < nC W m) (v1 : v ≤ 100) (hq : a_rq a_tb h) : xq f xi_X10_mayBe xmi_X10_mayBe 0 [(0, .ref 39), (1, .int (nI k)), (2, .int (nI v))] [] h (fun w h' => h = h' ∧ w = some (.int (bl (mayb (sg W m) g k v)))) := by
  refine xq_n 2 [0, 1, 2, 3] [(0, .ref 39), (1, .int (nI k)), (2, .int (nI v)), (3, .int (Int32.ofInt 0))] [] h [] 60 hq rfl trivial (fun _ => ?_)
  exact may_l R G m12 hk v1 hq k f 0 (by omega) rfl
end
end XWE
end
section
section XWF
theorem x_m1 (x : Int32) : x + Int32.ofInt (-1) = x - Int32.ofInt 1 := by rw [Int32.sub_eq_add_neg]; rfl
def rvc : Nat → Int32
  | 0 => Int32.ofInt 0
  | 1 => -2
  | _ + 2 => Int32.ofInt 1
section
variable {W : Nat → Bool} {m s : Nat}
/-- how a search by a sum ends -/
def tsP (hb : xh_H) (st : Nat × Nat) (v : Option Value) (h' : xh_H) : Prop := fx FT fN hb h' ∧ xg 0 h'.2.1 39 49 = nI st.1 ∧ (st.2 = 0 → st.1 ≤ 5000) ∧ v = some (.int (rvc st.2))
theorem sm_k {z g : Nat → Nat} {C k v : Nat} (hk : k < C) : sm (fun i => if i < k + 1 then z i * ug g k v i else 0) C = sm (fun i => if i < k then z i * g i else 0) C + z k * v := by
  rw [show z k * v = sm (fun i => if i = k then z k * v else 0) C by rw [sm_1, if_pos hk], ← sm_a]
  refine sm_c C (fun i hi => ?_)
  by_cases y : i = k
  · subst y
    rw [if_pos (by omega), if_neg (by omega), if_pos rfl, ug_s]; omega
  · by_cases w : i < k
    · rw [if_pos (by omega), if_pos w, if_neg y, ug_o y]; rfl
    · rw [if_neg (by omega), if_neg w, if_neg y]
theorem sm_d {z g : Nat → Nat} {C k : Nat} (hk : k < C) : sm (fun i => if i < k + 1 then z i * g i else 0) C = sm (fun i => if i < k then z i * g i else 0) C + z k * g k := by
  rw [← sm_k hk]
  refine sm_c C (fun i hi => ?_)
  by_cases y : i = k
  · rw [y, ug_s]
  · rw [ug_o y]
theorem vst_t {R : (Nat → Nat) → Bool} {g : Nat → Nat} {st : Nat × Nat} (h0 : st.2 = 0) (h : 5000 < st.1 + 1) : vst R s g st = (st.1 + 1, 1) := by unfold vst; rw [if_pos h0, if_pos h]
theorem vst_r {R : (Nat → Nat) → Bool} {g : Nat → Nat} {st : Nat × Nat} (h0 : st.2 = 0) (h : ¬ 5000 < st.1 + 1) (r : R g = true) : vst R s g st = (st.1 + 1, s + 2) := by unfold vst; rw [if_pos h0, if_neg h, if_pos r]
theorem vst_x {R : (Nat → Nat) → Bool} {g : Nat → Nat} {st : Nat × Nat} (h0 : st.2 = 0) (h : ¬ 5000 < st.1 + 1) (r : R g = false) : vst R s g st = (st.1 + 1, 0) := by unfold vst; rw [if_pos h0, if_neg h, if_neg (by rw [r]; decide)]
set_option maxRecDepth 100000 in
set_option maxHeartbeats 16000000 in
/-- X10.trySum -/
theorem ts_l {hb : xh_H} (Rb : RSt W m hb) (m12 : m ≤ 12) (s60 : s ≤ 60) : ∀ (f k : Nat) (g : Nat → Nat) (rem v0 l : Nat) (st : Nat × Nat) (h : xh_H), k < nC W m → a_rq a_tb h → fx FT fN hb h → gvn k g h → (∀ i, i < k → g i < 100) → xg 0 h.2.1 57 k = nI v0 → v0 ≤ 100 → l + (if v0 < 100 then szc W m k * v0 else 0) = rem → rem + sm (fun i => if i < k then szc W m i * g i else 0) (nC W m) = s → pre (sg W m) k g → st.2 = 0 → st.1 ≤ 5000 → xg 0 h.2.1 39 49 = nI st.1 → xq f xi_X10_trySum xmi_X10_trySum 12 [(0, .ref 39), (2, .int (nI k)), (3, .int (nI l))] [] h (tsP hb (Kc (nC W m) (sg W m) (szc W m) (vst (rgt' W m s) s) k g rem v0 st)) := by
  have c12 := nC_m (W := W) (m := m)
  have hV : ∀ (g g' : Nat → Nat) (st : Nat × Nat), (∀ i, i < nC W m → g i = g' i) → vst (rgt' W m s) s g st = vst (rgt' W m s) s g' st := fun g g' st e => vst_c e
  intro f
  induction f with
  | zero => intros; exact xq_0
  | succ f ih =>
    intro k g rem v0 l st h hk hq ge G g100 e57 v100 el es hp s0 s5 e49
    have R := RSt_f Rb ge
    have zb := szc_m (W := W) (m := m) (c := k)
    have ck : (nI k).toNatClampNeg = k := nI_clamp (by omega)
    have z55 : xg 0 h.2.1 55 (nI k).toNatClampNeg = nI (szc W m k) := by rw [ck]; exact R.2.1.2.2.1 k hk
    have y57 : xg 0 h.2.1 57 (nI k).toNatClampNeg = nI v0 := by rw [ck]; exact e57
    have k46 : xg 0 h.2.1 39 46 = nI (nC W m) := R.2.1.1
    have inner : ∀ u, u ≤ v0 → xq f xi_X10_trySum xmi_X10_trySum 53 [(0, .ref 39), (2, .int (nI k)), (3, .int (nI rem)), (4, .int (nI u - Int32.ofInt 1))] [] h (tsP hb (Kc (nC W m) (sg W m) (szc W m) (vst (rgt' W m s) s) k g rem u st)) := by
      intro u
      induction u with
      | zero =>
        intro _
        cases k with
        | zero =>
          refine xq_n 185 [] [] [.int (Int32.ofInt 0)] h [true, false, true] 60 hq rfl ⟨rfl, rfl, rfl, trivial⟩ (fun _ => ?_)
          exact xq_ret rfl rfl rfl ⟨ge, e49, fun _ => s5, by show some (Value.int (Int32.ofInt 0)) = some (.int (rvc st.2)); rw [s0]; rfl⟩
        | succ k =>
          refine xq_n 12 [0, 2, 3] [(0, .ref 39), (2, .int (nI (k + 1) + Int32.ofInt (-1))), (3, .int (nI rem))] [] h [true, false] 60 hq rfl ⟨rfl, rfl, trivial⟩ (fun _ => ?_)
          rw [nI_dec2]
          have gk := g100 k (by omega)
          rw [sm_d (by omega)] at es
          exact ih k g (rem + szc W m k * g k) (g k) rem st h (by omega) hq ge (fun c hc => G c (by omega)) (fun i hi => g100 i (by omega)) (G k (by omega)).1 (by omega) (by rw [if_pos gk]) (by omega) (pre_d hp) s0 s5 e49
      | succ u iu =>
        intro hu
        have iu := iu (by omega)
        rw [nI_sub1, Kc_v]
        have x0 : xe_c .lt (nI u) 0 = false := nI_i0 (by omega)
        have zu : szc W m k * u ≤ 12 * 100 := Nat.mul_le_mul (by omega) (by omega)
        have xz : xg 0 h.2.1 55 (nI k).toNatClampNeg * nI u = nI (szc W m k * u) := by rw [z55, nI_ml]
        by_cases z : rem < szc W m k * u
        · rw [show Fk (nC W m) (sg W m) (szc W m) (vst (rgt' W m s) s) k g rem u st = st from if_neg (by omega)]
          refine xq_n 53 [0, 2, 3, 4] [(0, .ref 39), (2, .int (nI k)), (3, .int (nI rem)), (4, .int (nI u + Int32.ofInt (-1)))] [] h [false, true] 60 hq rfl ⟨x0, (show xe_c .gt (xg 0 h.2.1 55 (nI k).toNatClampNeg * nI u) (nI rem) = true by rw [xz]; exact ngt_t (by omega) (by omega) z), trivial⟩ (fun _ => ?_)
          rw [x_m1]
          exact iu
        · refine xq_n 75 [0, 2, 3, 4] [(0, .ref 39), (2, .int (nI k)), (3, .int (nI rem)), (4, .int (nI u))] [.int (nI u), .int (nI k), .ref 39] h [false, false] 60 hq rfl ⟨x0, (show xe_c .gt (xg 0 h.2.1 55 (nI k).toNatClampNeg * nI u) (nI rem) = false by rw [xz]; exact ngt_f (by omega) (by omega) (by omega)), trivial⟩ (fun _ => ?_)
          refine xq_run hq rfl rfl (may_q R G m12 hk (by omega) hq) ?_
          rintro v h1 ⟨rfl, rfl⟩
          have eF : Fk (nC W m) (sg W m) (szc W m) (vst (rgt' W m s) s) k g rem u st = Ks (nC W m) (sg W m) (szc W m) (vst (rgt' W m s) s) (nC W m - k - 1) (k + 1) (ug g k u) (rem - szc W m k * u) st := if_pos (by omega)
          rw [eF]
          cases c : mayb (sg W m) g k u with
          | false =>
            rw [may_p hk (by omega) c]
            refine xq_n 53 [0, 2, 3, 4] [(0, .ref 39), (2, .int (nI k)), (3, .int (nI rem)), (4, .int (nI u + Int32.ofInt (-1)))] [] h [false] 60 hq rfl ⟨rfl, trivial⟩ (fun _ => ?_)
            rw [x_m1]
            exact iu
          | true =>
            have hp1 := pre_s hp c
            refine xq_n 118 [0, 2, 3] [(0, .ref 39), (2, .int (nI k)), (3, .int (nI rem - xg 0 (xh_ui h 57 (nI k).toNatClampNeg (nI u)).2.1 55 (nI k).toNatClampNeg * nI u))] [] (xh_ui h 57 (nI k).toNatClampNeg (nI u)) [true, true] 60 hq rfl ⟨rfl, xge_t (by rw [nI_toInt (by omega)]; show (0 : Int) ≤ _; omega), trivial⟩ (fun _ => ?_)
            rw [gx_o (c := 57) (c' := 55) (by decide), xz, nI_sub (by omega), ck]
            have hq1 : a_rq a_tb (xh_ui h 57 k (nI u)) := a_rq_ui hq
            have ge1 : fx FT fN hb (xh_ui h 57 k (nI u)) := fx_ui ge rfl
            have R1 := RSt_f Rb ge1
            have k461 : xg 0 (xh_ui h 57 k (nI u)).2.1 39 46 = nI (nC W m) := R1.2.1.1
            have e491 : xg 0 (xh_ui h 57 k (nI u)).2.1 39 49 = nI st.1 := (gx_o (by decide)).trans e49
            have G1 : gvn (k + 1) (ug g k u) (xh_ui h 57 k (nI u)) := fun c hc => by
              by_cases y : c = k
              · rw [y, ug_s]; exact ⟨gx_s, by omega⟩
              · rw [ug_o y]; exact ⟨(gx_k y).trans (G c (by omega)).1, (G c (by omega)).2⟩
            have g1001 : ∀ i, i < k + 1 → ug g k u i < 100 := fun i hi => by
              by_cases y : i = k
              · rw [y, ug_s]; omega
              · rw [ug_o y]; exact g100 i (by omega)
            by_cases kC : k + 1 < nC W m
            · rw [show (rem : Nat) = (rem - szc W m k * u) + szc W m k * u by omega, show (rem - szc W m k * u) + szc W m k * u - szc W m k * u = rem - szc W m k * u by omega, ← Kc_p hV kC]
              refine xq_n 12 [0, 2, 3] [(0, .ref 39), (2, .int (nI k + Int32.ofInt 1)), (3, .int (nI (rem - szc W m k * u)))] [] (xh_ui (xh_ui h 57 k (nI u)) 57 (nI k + Int32.ofInt 1).toNatClampNeg 100) [false] 60 hq1 rfl ⟨(show xe_c .ge (nI k) (xg 0 (xh_ui h 57 k (nI u)).2.1 39 46 - Int32.ofInt 1) = false by rw [k461, nI_dec1 (by omega)]; exact nge_f (by omega) (by omega) (by omega)), trivial⟩ (fun _ => ?_)
              rw [nI_1', show (nI (k + 1)).toNatClampNeg = k + 1 from nI_clamp (by omega)]
              refine ih (k + 1) (ug g k u) (rem - szc W m k * u) 100 (rem - szc W m k * u) st _ kC (a_rq_ui hq1) (fx_ui ge1 rfl) (fun c hc => ⟨(gx_k (by omega)).trans (G1 c hc).1, (G1 c hc).2⟩) g1001 gx_s (Nat.le_refl _) (by rw [if_neg (by omega)]; rfl) (by rw [sm_k hk]; omega) hp1 s0 s5 ((gx_o (by decide)).trans e491)
            · have eC : nC W m = k + 1 := by omega
              have x46 : xe_c .ge (nI k) (xg 0 (xh_ui h 57 k (nI u)).2.1 39 46 - Int32.ofInt 1) = true := by rw [k461, nI_dec1 (by omega)]; exact nge_t (by omega) (by omega) (by omega)
              have eK : Ks (nC W m) (sg W m) (szc W m) (vst (rgt' W m s) s) (nC W m - k - 1) (k + 1) (ug g k u) (rem - szc W m k * u) st = if rem - szc W m k * u = 0 ∧ okw (nC W m) (sg W m) (ug g k u) = true then vst (rgt' W m s) s (ug g k u) st else st := by rw [show nC W m - k - 1 = 0 by omega]; rfl
              rw [eK]
              have again : ∀ (st' : Nat × Nat) (h' : xh_H), a_rq a_tb h' → fx FT fN hb h' → (∀ c, c < k + 1 → xg 0 h'.2.1 57 c = nI (ug g k u c)) → st'.2 = 0 → st'.1 ≤ 5000 → xg 0 h'.2.1 39 49 = nI st'.1 → xq f xi_X10_trySum xmi_X10_trySum 12 [(0, .ref 39), (2, .int (nI k)), (3, .int (nI (rem - szc W m k * u)))] [] h' (tsP hb (Kc (nC W m) (sg W m) (szc W m) (vst (rgt' W m s) s) k g rem u st')) := fun st' h' hq' ge' G' a1 a2 a3 =>
                ih k g rem u (rem - szc W m k * u) st' h' hk hq' ge' (fun c hc => ⟨(G' c (by omega)).trans (by rw [ug_o (by omega)]), (G c hc).2⟩) g100 ((G' k (by omega)).trans (by rw [ug_s])) (by omega) (by rw [if_pos (by omega)]; omega) es hp a1 a2 a3
              by_cases l0 : rem - szc W m k * u = 0
              · rw [if_pos ⟨l0, okw_i (fun i j hi hj l => hp1 i j (by omega) (by omega) l)⟩]
                have x3 : xe_c .le (nI (rem - szc W m k * u)) 0 = true := xle_t (by rw [nI_toInt (by omega)]; show _ ≤ (0 : Int); omega)
                have tot : s = sm (fun a => ug g k u (cl W m a)) m := by
                  rw [wt_all]
                  have e1 : sm (fun c => szc W m c * ug g k u c) (nC W m) = sm (fun i => if i < k + 1 then szc W m i * ug g k u i else 0) (nC W m) := sm_c _ (fun i hi => by rw [if_pos (by omega)])
                  rw [e1, sm_k hk]
                  omega
                have e492 : xg 0 (xh_ui h 57 k (nI u)).2.1 39 49 + Int32.ofInt 1 = nI (st.1 + 1) := by rw [e491, nI_1']
                have ge2 : fx FT fN hb (xh_ui (xh_ui h 57 k (nI u)) 39 49 (nI (st.1 + 1))) := fx_ui ge1 rfl
                have hq2 : a_rq a_tb (xh_ui (xh_ui h 57 k (nI u)) 39 49 (nI (st.1 + 1))) := a_rq_ui hq1
                refine xq_n 159 [0, 2, 3] [(0, .ref 39), (2, .int (nI k)), (3, .int (nI (rem - szc W m k * u)))] [] (xh_ui (xh_ui h 57 k (nI u)) 39 49 (xg 0 (xh_ui h 57 k (nI u)).2.1 39 49 + Int32.ofInt 1)) [true, true] 60 hq1 rfl ⟨x46, x3, trivial⟩ (fun _ => ?_)
                rw [e492]
                by_cases t5 : 5000 < st.1 + 1
                · rw [vst_t s0 t5, Kc_s (fun g => vst_n (by show (1 : Nat) ≠ 0; decide))]
                  refine xq_n 171 [] [] [.int (-2)] (xh_ui (xh_ui h 57 k (nI u)) 39 49 (nI (st.1 + 1))) [false] 60 hq2 rfl ⟨(show xe_c .le (xg 0 (xh_ui (xh_ui h 57 k (nI u)) 39 49 (nI (st.1 + 1))).2.1 39 49) 5000 = false by rw [gx_s]; exact nle_f (b := 5000) (by omega) (by decide) t5), trivial⟩ (fun _ => ?_)
                  exact xq_ret rfl rfl rfl ⟨ge2, gx_s, fun z => (by cases z), rfl⟩
                · refine xq_n 173 [0, 2, 3] [(0, .ref 39), (2, .int (nI k)), (3, .int (nI (rem - szc W m k * u)))] [.ref 39] (xh_ui (xh_ui h 57 k (nI u)) 39 49 (nI (st.1 + 1))) [true] 60 hq2 rfl ⟨(show xe_c .le (xg 0 (xh_ui (xh_ui h 57 k (nI u)) 39 49 (nI (st.1 + 1))).2.1 39 49) 5000 = true by rw [gx_s]; exact nle_t (b := 5000) (by omega) (by decide) (by omega)), trivial⟩ (fun _ => ?_)
                  refine xq_run hq2 rfl rfl (isr_q (s := s) (g := ug g k u) (RSt_f Rb ge2) (fun c hc => ⟨(gx_o (by decide)).trans (G1 c (by omega)).1, (G1 c (by omega)).2⟩) m12 tot hq2) ?_
                  rintro v h3 ⟨g3, rfl⟩
                  have hq3 := fx_q g3 hq2
                  have e493 : xg 0 h3.2.1 39 49 = nI (st.1 + 1) ∧ fx FT fN hb h3 ∧ ∀ c, c < k + 1 → xg 0 h3.2.1 57 c = nI (ug g k u c) :=
                    ⟨(fx_i g3 rfl).trans gx_s, fx_t ge2 (F50_T g3), fun c hc => (fx_i g3 rfl).trans ((gx_o (by decide)).trans (G1 c hc).1)⟩
                  cases r : rgt' W m s (ug g k u) with
                  | true =>
                    rw [vst_r s0 t5 r, Kc_s (fun g => vst_n (by show s + 2 ≠ 0; omega))]
                    refine xq_n 180 [] [] [.int (Int32.ofInt 1)] h3 [false] 60 hq3 rfl ⟨rfl, trivial⟩ (fun _ => ?_)
                    exact xq_ret rfl rfl rfl ⟨e493.2.1, e493.1, fun z => absurd z (Nat.succ_ne_zero _), rfl⟩
                  | false =>
                    rw [vst_x s0 t5 r]
                    refine xq_n 12 [0, 2, 3] [(0, .ref 39), (2, .int (nI k)), (3, .int (nI (rem - szc W m k * u)))] [] h3 [true] 60 hq3 rfl ⟨rfl, trivial⟩ (fun _ => ?_)
                    exact again (st.1 + 1, 0) h3 hq3 e493.2.1 e493.2.2 rfl (by show st.1 + 1 ≤ 5000; omega) e493.1
              · rw [if_neg (fun y => l0 y.1)]
                refine xq_n 12 [0, 2, 3] [(0, .ref 39), (2, .int (nI k)), (3, .int (nI (rem - szc W m k * u)))] [] (xh_ui h 57 k (nI u)) [true, false] 60 hq1 rfl ⟨x46, xle_f (by rw [nI_toInt (by omega)]; show (0 : Int) < _; omega), trivial⟩ (fun _ => ?_)
                exact again st _ hq1 ge1 (fun c hc => (G1 c hc).1) s0 s5 e491
    by_cases v9 : v0 < 100
    · rw [if_pos v9] at el
      have zv : szc W m k * v0 ≤ 12 * 100 := Nat.mul_le_mul (by omega) (by omega)
      refine xq_m 53 [0, 2, 3, 4] [(0, .ref 39), (2, .int (nI k)), (3, .int (nI l + xg 0 h.2.1 55 (nI k).toNatClampNeg * xg 0 h.2.1 57 (nI k).toNatClampNeg)), (4, .int (xg 0 h.2.1 57 (nI k).toNatClampNeg - Int32.ofInt 1))] [] h [false, false] 60 hq rfl ⟨nI_i0 (by omega), (show xe_c .ge (xg 0 h.2.1 57 (nI k).toNatClampNeg) 100 = false by rw [y57]; exact nge_f (b := 100) (by omega) (by decide) v9), trivial⟩ (fun _ => ?_)
      rw [z55, y57, nI_ml, nI_ad, el]
      exact inner v0 (Nat.le_refl _)
    · rw [if_neg v9] at el
      refine xq_m 53 [0, 2, 3, 4] [(0, .ref 39), (2, .int (nI k)), (3, .int (nI l)), (4, .int (xg 0 h.2.1 57 (nI k).toNatClampNeg - Int32.ofInt 1))] [] h [false, true] 60 hq rfl ⟨nI_i0 (by omega), (show xe_c .ge (xg 0 h.2.1 57 (nI k).toNatClampNeg) 100 = true by rw [y57]; exact nge_t (b := 100) (by omega) (by decide) (by omega)), trivial⟩ (fun _ => ?_)
      rw [y57, show l = rem by omega]
      exact inner v0 (Nat.le_refl _)
end
end XWF
end
section
section XWG
theorem dnf_v {S : Type} {F : Nat → S → S} {P : S → Prop} (hF : ∀ v st, P st → P (F v st)) : ∀ n st, P st → P (dnf F n st) := by
  intro n
  induction n with
  | zero => intro st h; exact h
  | succ n ih => intro st h; exact ih _ (hF n st h)
theorem Ks_v {C : Nat} {σ z : Nat → Nat} {V : (Nat → Nat) → Nat × Nat → Nat × Nat} {P : Nat × Nat → Prop} (hV : ∀ g st, P st → P (V g st)) : ∀ n k g l st, P st → P (Ks C σ z V n k g l st) := by
  intro n
  induction n with
  | zero => intro k g l st h; rw [Ks_0]; split; exact hV g st h; exact h
  | succ n ih => intro k g l st h; rw [Ks_n]; exact dnf_v (fun v st h => by split; exact ih _ _ _ _ h; exact h) 100 st h
section
variable {W : Nat → Bool} {m : Nat}
theorem Ss_r {s : Nat} (h : (Ss W m s).2 = 0) : (Ss W m (s + 1)).2 = 0 ∨ (Ss W m (s + 1)).2 = 1 ∨ (Ss W m (s + 1)).2 = s + 2 := Ks_v (P := fun st => st.2 = 0 ∨ st.2 = 1 ∨ st.2 = s + 2) (fun g st p => by
  unfold vst
  split
  · split
    · exact Or.inr (Or.inl rfl)
    · split
      · exact Or.inr (Or.inr rfl)
      · exact Or.inl rfl
  · exact p) _ _ _ _ _ (Or.inl h)
set_option maxRecDepth 100000 in
set_option maxHeartbeats 4000000 in
theorem tsw_q {f s : Nat} {st : Nat × Nat} {hb : xh_H} (Rb : RSt W m hb) (m12 : m ≤ 12) (m1 : 1 ≤ m) (s60 : s ≤ 60) {h : xh_H} (hq : a_rq a_tb h) (ge : fx FT fN hb h) (s0 : st.2 = 0) (s5 : st.1 ≤ 5000) (e49 : xg 0 h.2.1 39 49 = nI st.1) : xq f xi_X10_trySum xmi_X10_trySum 0 [(0, .ref 39), (1, .int (nI s))] [] h (tsP hb (Ks (nC W m) (sg W m) (szc W m) (vst (rgt' W m s) s) (nC W m) 0 (fun _ => 0) s st)) := by
  have C1 := nC_1 (W := W) m1
  rw [Kc_0 C1]
  refine xq_n 12 [0, 2, 3] [(0, .ref 39), (2, .int (Int32.ofInt 0)), (3, .int (nI s))] [] (xh_ui h 57 (Int32.ofInt 0).toNatClampNeg 100) [] 60 hq rfl trivial (fun _ => ?_)
  refine ts_l Rb m12 s60 f 0 (fun _ => 0) s 100 s st _ (by omega) (a_rq_ui hq) (fx_ui ge rfl) (fun c hc => absurd hc (Nat.not_lt_zero _)) (fun c hc => absurd hc (Nat.not_lt_zero _)) gx_s (Nat.le_refl _) (by rw [if_neg (by omega)]; rfl) ?_ (fun i j hi => absurd hi (Nat.not_lt_zero _)) s0 s5 ((gx_o (by decide)).trans e49)
  rw [sm_z _ (fun i _ => if_neg (Nat.not_lt_zero _))]
  rfl
set_option maxRecDepth 100000 in
set_option maxHeartbeats 4000000 in
/-- X10.weigh, the weights are told -/
theorem w10_t {s : Nat} (m12 : m ≤ 12) : ∀ (n f a : Nat) (h : xh_H), a + n = m → a_rq a_tb h → xg 0 h.2.1 39 4 = nI m → xq f xi_X10_weigh xmi_X10_weigh 84 [(0, .ref 39), (1, .int (nI s)), (3, .int (nI a))] [] h (fun v _ => v = some (.int (nI s))) := by
  intro n
  induction n with
  | zero =>
    intro f a h hn hq e4
    refine xq_n 126 [0, 1] [(0, .ref 39), (1, .int (nI s))] [] (xh_ui h 58 (12 : Int32).toNatClampNeg (xg 0 h.2.1 39 50)) [true] 60 hq rfl ⟨(show xe_c .ge (nI a) (xg 0 h.2.1 39 4) = true by rw [e4]; exact nge_t (by omega) (by omega) (by omega)), trivial⟩ (fun _ => ?_)
    have hq : a_rq a_tb (xh_ui h 58 (12 : Int32).toNatClampNeg (xg 0 h.2.1 39 50)) := a_rq_ui hq
    generalize xh_ui h 58 (12 : Int32).toNatClampNeg (xg 0 h.2.1 39 50) = h1 at hq ⊢
    refine xq_n 140 [] [] [.int (nI s)] (xh_ui (xh_ui h1 39 52 (xg 0 h1.2.1 39 4)) 39 51 (Int32.ofInt 1)) [] 60 hq rfl trivial (fun _ => ?_)
    exact xq_ret rfl rfl rfl rfl
  | succ n ih =>
    intro f a h hn hq e4
    refine xq_n 84 [0, 1, 3] [(0, .ref 39), (1, .int (nI s)), (3, .int (nI a + Int32.ofInt 1))] [] (xh_ui h 58 (nI a).toNatClampNeg (xg 0 h.2.1 57 (xg 0 h.2.1 54 (nI a).toNatClampNeg).toNatClampNeg)) [false] 60 hq rfl ⟨(show xe_c .ge (nI a) (xg 0 h.2.1 39 4) = false by rw [e4]; exact nge_f (by omega) (by omega) (by omega)), trivial⟩ (fun _ => ?_)
    rw [nI_1']
    exact ih f (a + 1) _ (by omega) (a_rq_ui hq) ((gx_o (by decide)).trans e4)
set_option maxRecDepth 100000 in
set_option maxHeartbeats 4000000 in
theorem w10_l {hb : xh_H} (Rb : RSt W m hb) (m12 : m ≤ 12) (m1 : 1 ≤ m) : ∀ (n f s : Nat) (h : xh_H), s + n = 61 → a_rq a_tb h → fx FT fN hb h → (Ss W m s).2 = 0 → (Ss W m s).1 ≤ 5000 → xg 0 h.2.1 39 49 = nI (Ss W m s).1 → xq f xi_X10_weigh xmi_X10_weigh 56 [(0, .ref 39), (1, .int (nI s))] [] h (fun v _ => v = some (.int (wcd (Ss W m 61).2))) := by
  intro n
  induction n with
  | zero =>
    intro f s h hn hq ge s0 s5 e49
    have e : s = 61 := by omega
    subst e
    rw [s0]
    refine xq_n 148 [] [] [.int (Int32.ofInt (-1))] h [true] 60 hq rfl ⟨rfl, trivial⟩ (fun _ => ?_)
    exact xq_ret rfl rfl rfl rfl
  | succ n ih =>
    intro f s h hn hq ge s0 s5 e49
    refine xq_n 64 [0, 1] [(0, .ref 39), (1, .int (nI s))] [.int (nI s), .ref 39] h [false] 60 hq rfl ⟨ngt_f (b := 60) (by omega) (by decide) (by omega), trivial⟩ (fun _ => ?_)
    refine xq_run hq rfl rfl (tsw_q Rb m12 m1 (by omega) hq ge s0 s5 e49) ?_
    rintro v h1 ⟨g1, t1, t2, rfl⟩
    have eS : Ks (nC W m) (sg W m) (szc W m) (vst (rgt' W m s) s) (nC W m) 0 (fun _ => 0) s (Ss W m s) = Ss W m (s + 1) := rfl
    rw [eS] at t1 t2 ⊢
    have hq1 : a_rq a_tb h1 := fx_q g1 (by have := fx_q ge (tb := a_tb); exact ⟨by rw [← ge.1]; exact hq.1, fun c s hs => by rw [← ge.1]; exact hq.2.1 c s hs, fun c k ci t a b => by rw [← ge.2.1]; exact hq.2.2 c k ci t a b⟩)
    have A1 := (RSt_f Rb g1).1
    rcases Ss_r s0 with z | z | z
    · rw [z]
      refine xq_n 56 [0, 1] [(0, .ref 39), (1, .int (nI s + Int32.ofInt 1))] [] h1 [false] 60 hq1 rfl ⟨rfl, trivial⟩ (fun _ => ?_)
      rw [nI_1']
      exact ih f (s + 1) h1 (by omega) hq1 g1 z (t2 z) t1
    · have e61 := Ss_s (W := W) (m := m) (s := s + 1) (by rw [z]; decide) (60 - s)
      rw [show s + 1 + (60 - s) = 61 by omega] at e61
      rw [e61, z]
      refine xq_n 81 [] [] [.int (-2)] h1 [true, false] 60 hq1 rfl ⟨rfl, rfl, trivial⟩ (fun _ => ?_)
      exact xq_ret rfl rfl rfl rfl
    · have e61 := Ss_s (W := W) (m := m) (s := s + 1) (by rw [z]; omega) (60 - s)
      rw [show s + 1 + (60 - s) = 61 by omega] at e61
      rw [e61, z]
      refine xq_n 84 [0, 1, 3] [(0, .ref 39), (1, .int (nI s)), (3, .int (Int32.ofInt 0))] [] h1 [true, true] 60 hq1 rfl ⟨rfl, rfl, trivial⟩ (fun _ => ?_)
      exact w10_t m12 m f 0 h1 (by omega) hq1 A1.1
end
section
variable {mem sc : Nat} {FR RW : Nat → Int32} {d : Int32} {h : xh_H}
set_option maxRecDepth 100000 in
set_option maxHeartbeats 4000000 in
/-- X10.weigh -/
theorem we10_q {f : Nat} {W : Nat → Bool} (hW : ∀ h, RA (cvB FR RW mem sc d) mem h → RA W mem h) (m12 : mem ≤ 12) (m1 : 1 ≤ mem) (e4 : xg 0 h.2.1 39 4 = nI mem) (e33 : xg 0 h.2.1 39 33 = nI sc) (sc8 : sc ≤ 8) (e3 : xg 0 h.2.1 39 3 = d) (hF : ∀ k, k < sc → xg 0 h.2.1 51 k = FR k) (hT : ∀ k, k < sc → (xg 0 h.2.1 52 k).toInt ≤ 999) (hR : ∀ k s, k < sc → s < 2 ^ mem → ∃ b : Bool, RW (4096 * k + s) = bl b ∧ xg 0 h.2.1 44 (4096 * k + s) = bl b) (hq : a_rq a_tb h) : xq f xi_X10_weigh xmi_X10_weigh 0 [(0, .ref 39)] [] h (fun v _ => v = some (.int (wgV W mem))) := by
  have p0 := Nat.two_pow_pos mem
  refine xq_n 6 [0] [(0, .ref 39)] [.ref 39] (xh_ui h 39 0 (Int32.ofInt 0)) [] 60 hq rfl trivial (fun _ => ?_)
  have hq : a_rq a_tb (xh_ui h 39 0 (Int32.ofInt 0)) := a_rq_ui hq
  refine xq_run hq rfl rfl (ly_q m12 e4 e33 sc8 e3 hF hT hR hq) ?_
  rintro v h1 ⟨rfl, g1, A⟩
  have hq := fx_q g1 hq
  have A := hW h1 A
  refine xq_n 10 [0] [(0, .ref 39)] [.ref 39] h1 [] 60 hq rfl trivial (fun _ => ?_)
  refine xq_run hq rfl rfl (rln_q A m12 hq) ?_
  rintro v h2 ⟨rfl, rfl⟩
  unfold wgV
  cases c1 : lnd W mem with
  | false =>
    refine xq_n 40 [] [] [.int (Int32.ofInt (-1))] h1 [true] 60 hq rfl ⟨rfl, trivial⟩ (fun _ => ?_)
    exact xq_ret rfl rfl rfl rfl
  | true =>
    have w0 := bn (rw0 A m12 p0)
    cases c2 : W 0 with
    | true =>
      rw [c2] at w0
      refine xq_n 40 [] [] [.int (Int32.ofInt (-1))] h1 [false, true] 60 hq rfl ⟨rfl, w0, trivial⟩ (fun _ => ?_)
      exact xq_ret rfl rfl rfl rfl
    | false =>
      rw [c2] at w0
      have w1 : xe_c .ne (xg 0 h1.2.1 53 (xg 0 h1.2.1 39 35 - Int32.ofInt 1).toNatClampNeg) 0 = W (2 ^ mem - 1) := bn (by rw [A.2.1, nI_dec1 Nat.one_le_two_pow]; exact rw0 A m12 (by omega))
      cases c3 : W (2 ^ mem - 1) with
      | false =>
        rw [c3] at w1
        refine xq_n 40 [] [] [.int (Int32.ofInt (-1))] h1 [false, false, false] 60 hq rfl ⟨rfl, w0, w1, trivial⟩ (fun _ => ?_)
        exact xq_ret rfl rfl rfl rfl
      | true =>
        rw [c3] at w1
        have L := Ln_of c1
        refine xq_n 42 [0] [(0, .ref 39)] [.ref 39] h1 [false, false, true] 60 hq rfl ⟨rfl, w0, w1, trivial⟩ (fun _ => ?_)
        refine xq_run hq rfl rfl (fso_q m12 L A hq) ?_
        rintro v h2 ⟨rfl, ⟨A2, g2, i2⟩, ia2⟩
        have hq := fx_q g2 hq
        refine xq_n 46 [0] [(0, .ref 39)] [.ref 39] h2 [] 60 hq rfl trivial (fun _ => ?_)
        refine xq_run hq rfl rfl (fen_q m12 A2 hq) ?_
        rintro v h3 ⟨rfl, A3, g3, E1, E2⟩
        have hq := fx_q g3 hq
        refine xq_n 56 [0, 1] [(0, .ref 39), (1, .int (Int32.ofInt 0))] [] (xh_ui h3 39 49 (Int32.ofInt 0)) [] 60 hq rfl trivial (fun _ => ?_)
        have R3 : RSt W mem h3 := by
          obtain ⟨i21, i22, i23, i24⟩ := i2
          exact ⟨A3, ⟨(fx_i g3 rfl).trans i21, fun a ha => (fx_i g3 rfl).trans (i22 a ha), fun c hc => (fx_i g3 rfl).trans (i23 c hc), fun c hc => (fx_i g3 rfl).trans (i24 c hc)⟩, fun a b ha hb l => (fx_i g3 rfl).trans (ia2 a b ha hb l), E1, E2⟩
        exact w10_l R3 m12 m1 61 f 0 _ (by omega) (a_rq_ui hq) (fx_ui fx_0 rfl) rfl (by show (0 : Nat) ≤ 5000; decide) gx_s
end
end XWG
end
section
section XWH
theorem cmv_0 {o u : Bool} : xe_c .ne (cmv o u) 0 = !(o && u) := by cases o <;> cases u <;> decide
theorem cmvw1 {o u : Bool} : xe_c .ne (cmv o u) (Int32.ofInt 1) = !(o && !u) := by cases o <;> cases u <;> decide
section
variable {W : Nat → Bool} {m : Nat} {h : xh_H}
set_option maxRecDepth 100000 in
set_option maxHeartbeats 4000000 in
/-- Scales.isFirst -/
theorem isf_l {a : Nat} (m12 : m ≤ 12) (P : PD W m h) (ha : a < m) (hq : a_rq a_tb h) : ∀ (n f b : Nat), b + n = a → aln (fun b => !alk W m a b) b = true → xq f xi_X5_isFirst xmi_X5_isFirst 2 [(0, .ref 21), (1, .int (nI a)), (2, .int (nI b))] [] h (fun v h' => h = h' ∧ v = some (.int (bl (isf W m a)))) := by
  intro n
  induction n with
  | zero =>
    intro f b hn w
    have e : b = a := by omega
    subst e
    refine xq_n 28 [] [] [.int (Int32.ofInt 1)] h [true] 60 hq rfl ⟨nge_t (by omega) (by omega) (Nat.le_refl _), trivial⟩ (fun _ => ?_)
    exact xq_ret rfl rfl rfl ⟨rfl, by unfold isf; rw [w]; rfl⟩
  | succ n ih =>
    intro f b hn w
    refine xq_n 13 [0, 1, 2] [(0, .ref 21), (1, .int (nI a)), (2, .int (nI b))] [.int (nI b), .int (nI a), .ref 14] h [false] 60 hq rfl ⟨nge_f (by omega) (by omega) (by omega), trivial⟩ (fun _ => ?_)
    refine xq_run hq rfl rfl (cmp_q m12 P ha (by omega) hq) ?_
    rintro v h1 ⟨rfl, rfl⟩
    have hd := cmv_0 (o := aln (gp W a b) (2 ^ m)) (u := aln (gp W b a) (2 ^ m))
    cases c : alk W m a b with
    | true =>
      have c' : (aln (gp W a b) (2 ^ m) && aln (gp W b a) (2 ^ m)) = true := c
      rw [c'] at hd
      refine xq_n 20 [] [] [.int (Int32.ofInt 0)] h [false] 60 hq rfl ⟨hd, trivial⟩ (fun _ => ?_)
      exact xq_ret rfl rfl rfl ⟨rfl, by rw [show isf W m a = false from aln_f (P := fun b => !alk W m a b) (by rw [c]; rfl) a (by omega)]; rfl⟩
    | false =>
      have c' : (aln (gp W a b) (2 ^ m) && aln (gp W b a) (2 ^ m)) = false := c
      rw [c'] at hd
      refine xq_n 2 [0, 1, 2] [(0, .ref 21), (1, .int (nI a)), (2, .int (nI b + Int32.ofInt 1))] [] h [true] 60 hq rfl ⟨hd, trivial⟩ (fun _ => ?_)
      rw [nI_1']
      exact ih f (b + 1) (by omega) (aln_s w (by rw [c]; rfl))
theorem isf_q {f a : Nat} (m12 : m ≤ 12) (P : PD W m h) (ha : a < m) (hq : a_rq a_tb h) : xq f xi_X5_isFirst xmi_X5_isFirst 0 [(0, .ref 21), (1, .int (nI a))] [] h (fun v h' => h = h' ∧ v = some (.int (bl (isf W m a)))) := by
  refine xq_n 2 [0, 1, 2] [(0, .ref 21), (1, .int (nI a)), (2, .int (Int32.ofInt 0))] [] h [] 60 hq rfl trivial (fun _ => ?_)
  exact isf_l m12 P ha hq a f 0 (by omega) rfl
/-- counted by kinds, or by members -/
theorem cnt_fs {Q : Nat → Bool} : ∀ n, n ≤ m → cnt (fun c => Q (fs W m c)) (cnt (isf W m) n) = cnt (fun b => isf W m b && Q b) n := by
  intro n
  induction n with
  | zero => intro _; rfl
  | succ n ih =>
    intro hn
    have r := ih (by omega)
    cases c : isf W m n with
    | false => rw [cnt_f c, r, cnt_f (by rw [c]; rfl)]
    | true =>
      have e := fs_f (W := W) (show n < m by omega) c
      rw [cnt_t c]
      cases q : Q n with
      | true => rw [cnt_t (by rw [e]; exact q), r, cnt_t (by rw [c, q]; rfl)]
      | false => rw [cnt_f (by rw [e]; exact q), r, cnt_f (by rw [c, q]; rfl)]
set_option maxRecDepth 100000 in
set_option maxHeartbeats 4000000 in
/-- Scales.strengthOf -/
theorem sto_l {a : Nat} (m12 : m ≤ 12) (P : PD W m h) (ha : a < m) (e8 : xg 0 h.2.1 21 8 = nI (nC W m)) (e24 : ∀ c, c < nC W m → xg 0 h.2.1 24 c = nI (fs W m c)) (hq : a_rq a_tb h) : ∀ (n f c : Nat), c + n = nC W m → xq f xi_X5_strengthOf xmi_X5_strengthOf 4 [(0, .ref 21), (1, .int (nI a)), (2, .int (nI (cnt (fun c => stg W m a (fs W m c)) c))), (3, .int (nI c))] [] h (fun v h' => h = h' ∧ v = some (.int (nI (str W m a)))) := by
  have c12 := nC_m (W := W) (m := m)
  intro n
  induction n with
  | zero =>
    intro f c hn
    have e : c = nC W m := by omega
    refine xq_n 40 [] [] [.int (nI (cnt (fun c => stg W m a (fs W m c)) c))] h [true] 60 hq rfl ⟨(show xe_c .ge (nI c) (xg 0 h.2.1 21 8) = true by rw [e8]; exact nge_t (by omega) (by omega) (by omega)), trivial⟩ (fun _ => ?_)
    exact xq_ret rfl rfl rfl ⟨rfl, by rw [e]; unfold nC; rw [cnt_fs (Q := stg W m a) m (Nat.le_refl _)]; rfl⟩
  | succ n ih =>
    intro f c hn
    have hc : c < nC W m := by omega
    refine xq_n 23 [0, 1, 2, 3] [(0, .ref 21), (1, .int (nI a)), (2, .int (nI (cnt (fun c => stg W m a (fs W m c)) c))), (3, .int (nI c))] [.int (xg 0 h.2.1 24 (nI c).toNatClampNeg), .int (nI a), .ref 14] h [false] 60 hq rfl ⟨(show xe_c .ge (nI c) (xg 0 h.2.1 21 8) = false by rw [e8]; exact nge_f (by omega) (by omega) hc), trivial⟩ (fun _ => ?_)
    rw [nI_clamp (by omega), e24 c hc]
    refine xq_run hq rfl rfl (cmp_q m12 P ha (fsq1 hc).1 hq) ?_
    rintro v h1 ⟨rfl, rfl⟩
    have hd := cmvw1 (o := aln (gp W a (fs W m c)) (2 ^ m)) (u := aln (gp W (fs W m c) a) (2 ^ m))
    have r := ih f (c + 1) (by omega)
    cases q : stg W m a (fs W m c) with
    | true =>
      have q' : (aln (gp W a (fs W m c)) (2 ^ m) && !aln (gp W (fs W m c) a) (2 ^ m)) = true := q
      rw [q'] at hd
      rw [cnt_t (P := fun c => stg W m a (fs W m c)) q] at r
      refine xq_n 4 [0, 1, 2, 3] [(0, .ref 21), (1, .int (nI a)), (2, .int (nI (cnt (fun c => stg W m a (fs W m c)) c) + Int32.ofInt 1)), (3, .int (nI c + Int32.ofInt 1))] [] h [false] 60 hq rfl ⟨hd, trivial⟩ (fun _ => ?_)
      rw [nI_1', nI_1']
      exact r
    | false =>
      have q' : (aln (gp W a (fs W m c)) (2 ^ m) && !aln (gp W (fs W m c) a) (2 ^ m)) = false := q
      rw [q'] at hd
      rw [cnt_f (P := fun c => stg W m a (fs W m c)) q] at r
      refine xq_n 4 [0, 1, 2, 3] [(0, .ref 21), (1, .int (nI a)), (2, .int (nI (cnt (fun c => stg W m a (fs W m c)) c))), (3, .int (nI c + Int32.ofInt 1))] [] h [true] 60 hq rfl ⟨hd, trivial⟩ (fun _ => ?_)
      rw [nI_1']
      exact r
theorem sto_q {f a : Nat} (m12 : m ≤ 12) (P : PD W m h) (ha : a < m) (e8 : xg 0 h.2.1 21 8 = nI (nC W m)) (e24 : ∀ c, c < nC W m → xg 0 h.2.1 24 c = nI (fs W m c)) (hq : a_rq a_tb h) : xq f xi_X5_strengthOf xmi_X5_strengthOf 0 [(0, .ref 21), (1, .int (nI a))] [] h (fun v h' => h = h' ∧ v = some (.int (nI (str W m a)))) := by
  refine xq_n 4 [0, 1, 2, 3] [(0, .ref 21), (1, .int (nI a)), (2, .int (Int32.ofInt 0)), (3, .int (Int32.ofInt 0))] [] h [] 60 hq rfl trivial (fun _ => ?_)
  exact sto_l m12 P ha e8 e24 hq (nC W m) f 0 (by omega)
def FC (c k : Nat) : Bool := Nat.beq c 23 || (Nat.beq c 24 || (Nat.beq c 25 || (Nat.beq c 26 || (Nat.beq c 21 && Nat.beq k 8))))
theorem PD_f {S L : Nat → Nat → Bool} {h' : xh_H} (P : PD W m h) (g : fx S L h h') (e14 : ∀ k, S 14 k = false) (e15 : ∀ k, S 15 k = false) (e16 : ∀ k, S 16 k = false) (e17 : ∀ k, S 17 k = false) (e19 : ∀ k, S 19 k = false) : PD W m h' := PD_c (fun c k z => fx_i g (by rcases z with ⟨rfl, -⟩ | rfl | rfl | rfl | rfl; exact e14 k; exact e15 k; exact e16 k; exact e17 k; exact e19 k)) P
/-- what Scales knows of the kinds -/
def CSt (W : Nat → Bool) (m : Nat) (h : xh_H) : Prop := PD W m h ∧ xg 0 h.2.1 14 7 = nI m ∧ xg 0 h.2.1 21 8 = nI (nC W m) ∧ (∀ a, a < m → xg 0 h.2.1 23 a = nI (str W m a)) ∧ (∀ c, c < nC W m → xg 0 h.2.1 24 c = nI (fs W m c)) ∧ ∀ t, t < nC W m → xg 0 h.2.1 25 t = nI (cnt (fun a => decide (str W m a = t)) m)
set_option maxRecDepth 100000 in
set_option maxHeartbeats 8000000 in
/-- Scales.findClasses, the strengths -/
theorem fcl_3 {hb : xh_H} (m12 : m ≤ 12) (Pb : PD W m hb) (e7b : xg 0 hb.2.1 14 7 = nI m) : ∀ (j f n : Nat) (h : xh_H), n + j = m → a_rq a_tb h → fx FC fN hb h → xg 0 h.2.1 21 8 = nI (nC W m) → (∀ c, c < nC W m → xg 0 h.2.1 24 c = nI (fs W m c)) → (∀ t, t < nC W m → xg 0 h.2.1 26 t = Int32.ofInt (-1)) → (∀ a, a < n → xg 0 h.2.1 23 a = nI (str W m a)) → (∀ t, t < nC W m → xg 0 h.2.1 25 t = nI (cnt (fun a => decide (str W m a = t)) n)) → xq f xi_X5_findClasses xmi_X5_findClasses 84 [(0, .ref 21), (1, .int (nI n))] [] h (fun v h' => v = none ∧ fx FC fN hb h' ∧ CSt W m h' ∧ ∀ t, t < nC W m → xg 0 h'.2.1 26 t = Int32.ofInt (-1)) := by
  have c12 := nC_m (W := W) (m := m)
  intro j
  induction j with
  | zero =>
    intro f n h nj hq ge e8 e24 e26 e23 e25
    have e : n = m := by omega
    subst e
    have P := PD_f Pb ge (fun _ => rfl) (fun _ => rfl) (fun _ => rfl) (fun _ => rfl) (fun _ => rfl)
    have e7 : xg 0 h.2.1 14 7 = nI n := (fx_i ge rfl).trans e7b
    refine xq_n 127 [] [] [] h [true] 60 hq rfl ⟨(show xe_c .ge (nI n) (xg 0 h.2.1 14 7) = true by rw [e7]; exact nge_t (by omega) (by omega) (Nat.le_refl _)), trivial⟩ (fun _ => ?_)
    exact xq_ret rfl rfl rfl ⟨rfl, ge, ⟨P, e7, e8, e23, e24, e25⟩, e26⟩
  | succ j ih =>
    intro f n h nj hq ge e8 e24 e26 e23 e25
    have P := PD_f Pb ge (fun _ => rfl) (fun _ => rfl) (fun _ => rfl) (fun _ => rfl) (fun _ => rfl)
    have e7 : xg 0 h.2.1 14 7 = nI m := (fx_i ge rfl).trans e7b
    have hn : n < m := by omega
    have cn : (nI n).toNatClampNeg = n := nI_clamp (by omega)
    have sl := str_c (W := W) hn
    refine xq_n 102 [0, 1] [(0, .ref 21), (1, .int (nI n))] [.int (nI n), .ref 21, .int (nI n), .ref 23] h [false] 60 hq rfl ⟨(show xe_c .ge (nI n) (xg 0 h.2.1 14 7) = false by rw [e7]; exact nge_f (by omega) (by omega) hn), trivial⟩ (fun _ => ?_)
    refine xq_run hq rfl rfl (sto_q m12 P hn e8 e24 hq) ?_
    rintro v h1 ⟨rfl, rfl⟩
    refine xq_n 106 [0, 1] [(0, .ref 21), (1, .int (nI n))] [] (xh_ui h 23 (nI n).toNatClampNeg (nI (str W m n))) [] 60 hq rfl trivial (fun _ => ?_)
    rw [cn]
    have hq : a_rq a_tb (xh_ui h 23 n (nI (str W m n))) := a_rq_ui hq
    have x23 : xg 0 (xh_ui h 23 n (nI (str W m n))).2.1 23 (nI n).toNatClampNeg = nI (str W m n) := by rw [cn]; exact gx_s
    refine xq_n 84 [0, 1] [(0, .ref 21), (1, .int (nI n + Int32.ofInt 1))] [] (xh_ui (xh_ui h 23 n (nI (str W m n))) 25 (xg 0 (xh_ui h 23 n (nI (str W m n))).2.1 23 (nI n).toNatClampNeg).toNatClampNeg (xg 0 (xh_ui h 23 n (nI (str W m n))).2.1 25 (xg 0 (xh_ui h 23 n (nI (str W m n))).2.1 23 (nI n).toNatClampNeg).toNatClampNeg + Int32.ofInt 1)) [] 60 hq rfl trivial (fun _ => ?_)
    rw [x23, nI_clamp (show str W m n < 2 ^ 31 by omega), gx_o (c := 23) (c' := 25) (by decide), e25 _ sl, nI_1', nI_1']
    refine ih f (n + 1) _ (by omega) (a_rq_ui hq) (fx_ui (fx_ui ge rfl) rfl) ((gx_o (by decide)).trans ((gx_o (by decide)).trans e8)) (fun c hc => (gx_o (by decide)).trans ((gx_o (by decide)).trans (e24 c hc))) (fun c hc => (gx_o (by decide)).trans ((gx_o (by decide)).trans (e26 c hc))) (fun a ha => ?_) (fun t ht => ?_)
    · rw [gx_o (by decide), gx_if]
      by_cases z : a = n
      · rw [if_pos z, z]
      · rw [if_neg z]; exact e23 a (by omega)
    · rw [gx_if]
      by_cases z : t = str W m n
      · rw [if_pos z, ← z, cnt_t (decide_eq_true z.symm)]
      · rw [if_neg z, gx_o (by decide), cnt_f (decide_eq_false (fun y => z y.symm))]
        exact e25 t ht
set_option maxRecDepth 100000 in
set_option maxHeartbeats 8000000 in
theorem fcl_2 {hb : xh_H} (m12 : m ≤ 12) (Pb : PD W m hb) (e7b : xg 0 hb.2.1 14 7 = nI m) : ∀ (j f n : Nat) (h : xh_H), n + j = nC W m → a_rq a_tb h → fx FC fN hb h → xg 0 h.2.1 21 8 = nI (nC W m) → (∀ c, c < nC W m → xg 0 h.2.1 24 c = nI (fs W m c)) → (∀ t, t < n → xg 0 h.2.1 26 t = Int32.ofInt (-1)) → (∀ t, t < n → xg 0 h.2.1 25 t = Int32.ofInt 0) → xq f xi_X5_findClasses xmi_X5_findClasses 54 [(0, .ref 21), (1, .int (nI n))] [] h (fun v h' => v = none ∧ fx FC fN hb h' ∧ CSt W m h' ∧ ∀ t, t < nC W m → xg 0 h'.2.1 26 t = Int32.ofInt (-1)) := by
  have c12 := nC_m (W := W) (m := m)
  intro j
  induction j with
  | zero =>
    intro f n h nj hq ge e8 e24 e26 e25
    have e : n = nC W m := by omega
    refine xq_n 84 [0, 1] [(0, .ref 21), (1, .int (Int32.ofInt 0))] [] h [true] 60 hq rfl ⟨(show xe_c .ge (nI n) (xg 0 h.2.1 21 8) = true by rw [e8]; exact nge_t (by omega) (by omega) (by omega)), trivial⟩ (fun _ => ?_)
    exact fcl_3 m12 Pb e7b m f 0 h (by omega) hq ge e8 e24 (fun t ht => e26 t (by omega)) (fun a ha => absurd ha (Nat.not_lt_zero _)) (fun t ht => e25 t (by omega))
  | succ j ih =>
    intro f n h nj hq ge e8 e24 e26 e25
    have cn : (nI n).toNatClampNeg = n := nI_clamp (by omega)
    refine xq_n 54 [0, 1] [(0, .ref 21), (1, .int (nI n + Int32.ofInt 1))] [] (xh_ui (xh_ui h 25 (nI n).toNatClampNeg (Int32.ofInt 0)) 26 (nI n).toNatClampNeg (Int32.ofInt (-1))) [false] 60 hq rfl ⟨(show xe_c .ge (nI n) (xg 0 h.2.1 21 8) = false by rw [e8]; exact nge_f (by omega) (by omega) (by omega)), trivial⟩ (fun _ => ?_)
    rw [nI_1', cn]
    refine ih f (n + 1) _ (by omega) (a_rq_ui (a_rq_ui hq)) (fx_ui (fx_ui ge rfl) rfl) ((gx_o (by decide)).trans ((gx_o (by decide)).trans e8)) (fun c hc => (gx_o (by decide)).trans ((gx_o (by decide)).trans (e24 c hc))) (fun t ht => ?_) (fun t ht => ?_)
    · rw [gx_if]
      by_cases z : t = n
      · rw [if_pos z]
      · rw [if_neg z, gx_o (by decide)]; exact e26 t (by omega)
    · rw [gx_o (by decide), gx_if]
      by_cases z : t = n
      · rw [if_pos z]
      · rw [if_neg z]; exact e25 t (by omega)
set_option maxRecDepth 100000 in
set_option maxHeartbeats 8000000 in
theorem fcl_1 {hb : xh_H} (m12 : m ≤ 12) (Pb : PD W m hb) (e7b : xg 0 hb.2.1 14 7 = nI m) : ∀ (j f n : Nat) (h : xh_H), n + j = m → a_rq a_tb h → fx FC fN hb h → xg 0 h.2.1 21 8 = nI (cnt (isf W m) n) → (∀ c, c < cnt (isf W m) n → xg 0 h.2.1 24 c = nI (fs W m c)) → xq f xi_X5_findClasses xmi_X5_findClasses 7 [(0, .ref 21), (1, .int (nI n))] [] h (fun v h' => v = none ∧ fx FC fN hb h' ∧ CSt W m h' ∧ ∀ t, t < nC W m → xg 0 h'.2.1 26 t = Int32.ofInt (-1)) := by
  intro j
  induction j with
  | zero =>
    intro f n h nj hq ge e8 e24
    have e : n = m := by omega
    subst e
    have e7 : xg 0 h.2.1 14 7 = nI n := (fx_i ge rfl).trans e7b
    refine xq_n 54 [0, 1] [(0, .ref 21), (1, .int (Int32.ofInt 0))] [] h [true] 60 hq rfl ⟨(show xe_c .ge (nI n) (xg 0 h.2.1 14 7) = true by rw [e7]; exact nge_t (by omega) (by omega) (Nat.le_refl _)), trivial⟩ (fun _ => ?_)
    exact fcl_2 m12 Pb e7b (nC W n) f 0 h (by omega) hq ge e8 e24 (fun t ht => absurd ht (Nat.not_lt_zero _)) (fun t ht => absurd ht (Nat.not_lt_zero _))
  | succ j ih =>
    intro f n h nj hq ge e8 e24
    have P := PD_f Pb ge (fun _ => rfl) (fun _ => rfl) (fun _ => rfl) (fun _ => rfl) (fun _ => rfl)
    have e7 : xg 0 h.2.1 14 7 = nI m := (fx_i ge rfl).trans e7b
    have hn : n < m := by omega
    have cl := cnt_le (P := isf W m) n
    refine xq_n 20 [0, 1] [(0, .ref 21), (1, .int (nI n))] [.int (nI n), .ref 21] h [false] 60 hq rfl ⟨(show xe_c .ge (nI n) (xg 0 h.2.1 14 7) = false by rw [e7]; exact nge_f (by omega) (by omega) hn), trivial⟩ (fun _ => ?_)
    refine xq_run hq rfl rfl (isf_q m12 P hn hq) ?_
    rintro v h1 ⟨rfl, rfl⟩
    cases c : isf W m n with
    | false =>
      refine xq_n 7 [0, 1] [(0, .ref 21), (1, .int (nI n + Int32.ofInt 1))] [] h [true] 60 hq rfl ⟨rfl, trivial⟩ (fun _ => ?_)
      rw [nI_1']
      exact ih f (n + 1) h (by omega) hq ge (by rw [cnt_f c]; exact e8) (by rw [cnt_f c]; exact e24)
    | true =>
      refine xq_n 36 [0, 1] [(0, .ref 21), (1, .int (nI n))] [] (xh_ui h 24 (xg 0 h.2.1 21 8).toNatClampNeg (nI n)) [false] 60 hq rfl ⟨rfl, trivial⟩ (fun _ => ?_)
      rw [e8, nI_clamp (by omega)]
      have hq : a_rq a_tb (xh_ui h 24 (cnt (isf W m) n) (nI n)) := a_rq_ui hq
      refine xq_n 7 [0, 1] [(0, .ref 21), (1, .int (nI n + Int32.ofInt 1))] [] (xh_ui (xh_ui h 24 (cnt (isf W m) n) (nI n)) 21 8 (xg 0 (xh_ui h 24 (cnt (isf W m) n) (nI n)).2.1 21 8 + Int32.ofInt 1)) [] 60 hq rfl trivial (fun _ => ?_)
      rw [gx_o (c := 24) (c' := 21) (by decide), e8, nI_1', nI_1']
      refine ih f (n + 1) _ (by omega) (a_rq_ui hq) (fx_ui (fx_ui ge rfl) rfl) (by rw [cnt_t c]; exact gx_s) (fun k hk => ?_)
      rw [cnt_t c] at hk
      rw [gx_o (by decide), gx_if]
      by_cases z : k = cnt (isf W m) n
      · rw [if_pos z, z, fs_f hn c]
      · rw [if_neg z]; exact e24 k (by omega)
/-- Scales.findClasses -/
theorem fcl_q {f : Nat} {hb : xh_H} (m12 : m ≤ 12) (Pb : PD W m hb) (e7b : xg 0 hb.2.1 14 7 = nI m) (hq : a_rq a_tb hb) : xq f xi_X5_findClasses xmi_X5_findClasses 0 [(0, .ref 21)] [] hb (fun v h' => v = none ∧ fx FC fN hb h' ∧ CSt W m h' ∧ ∀ t, t < nC W m → xg 0 h'.2.1 26 t = Int32.ofInt (-1)) := by
  refine xq_n 7 [0, 1] [(0, .ref 21), (1, .int (Int32.ofInt 0))] [] (xh_ui hb 21 8 (Int32.ofInt 0)) [] 60 hq rfl trivial (fun _ => ?_)
  exact fcl_1 m12 Pb e7b m f 0 _ (by omega) (a_rq_ui hq) (fx_ui fx_0 rfl) gx_s (fun c hc => absurd hc (Nat.not_lt_zero _))
end
end XWH
end
section
section XWI
def hO : Option Nat → Int32
  | none => Int32.ofInt (-1)
  | some v => nI v
/-- the weights held, by strength -/
def HH (C : Nat) (H : Nat → Option Nat) (h : xh_H) : Prop := ∀ t, t < C → xg 0 h.2.1 26 t = hO (H t) ∧ ∀ v, H t = some v → t ≤ v ∧ v ≤ 60
/-- those held grow with strength -/
def Hinc (C : Nat) (H : Nat → Option Nat) : Prop := ∀ s t a b, s < t → t < C → H s = some a → H t = some b → a < b
section
variable {C : Nat} {H : Nat → Option Nat} {zs : Nat → Nat} {h : xh_H}
set_option maxRecDepth 100000 in
set_option maxHeartbeats 4000000 in
/-- Scales.lowest -/
theorem low_l {s : Nat} (c12 : C ≤ 12) (hh : HH C H h) (hs : s < C) (Hi : Hinc C H) (hq : a_rq a_tb h) : ∀ (u f : Nat), u ≤ s → (∀ t, u ≤ t → t < s → H t = none) → xq f xi_X5_lowest xmi_X5_lowest 4 [(0, .ref 21), (1, .int (nI s)), (2, .int (nI u - Int32.ofInt 1))] [] h (fun v h' => h = h' ∧ ∃ lo, v = some (.int (nI lo)) ∧ s ≤ lo ∧ lo ≤ 80 ∧ (∀ t v, t < s → H t = some v → v < lo) ∧ ∀ G, fit C H G → lo ≤ G s) := by
  intro u
  induction u with
  | zero =>
    intro f hu no
    refine xq_n 36 [] [] [.int (nI s)] h [true] 60 hq rfl ⟨rfl, trivial⟩ (fun _ => ?_)
    exact xq_ret rfl rfl rfl ⟨rfl, s, rfl, Nat.le_refl _, by omega, fun t v ht e => (by rw [no t (Nat.zero_le _) ht] at e; cases e), fun G F => fit_0 F s hs⟩
  | succ u ih =>
    intro f hu no
    obtain ⟨h1, h2⟩ := hh u (by omega)
    have cu : (nI u).toNatClampNeg = u := nI_clamp (by omega)
    rw [nI_sub1]
    cases c : H u with
    | none =>
      rw [c] at h1
      refine xq_n 4 [0, 1, 2] [(0, .ref 21), (1, .int (nI s)), (2, .int (nI u + Int32.ofInt (-1)))] [] h [false, true] 60 hq rfl ⟨nI_i0 (by omega), (show xe_c .eq (xg 0 h.2.1 26 (nI u).toNatClampNeg) (Int32.ofInt (-1)) = true by rw [cu, h1]; rfl), trivial⟩ (fun _ => ?_)
      rw [x_m1]
      refine ih f (by omega) (fun t h1 h2 => ?_)
      by_cases z : t = u
      · rw [z]; exact c
      · exact no t (by omega) h2
    | some v =>
      rw [c] at h1
      obtain ⟨v1, v2⟩ := h2 v c
      have h1 : xg 0 h.2.1 26 (nI u).toNatClampNeg = nI v := by rw [cu]; exact h1
      refine xq_n 28 [] [] [.int (xg 0 h.2.1 26 (nI u).toNatClampNeg + nI s - nI u)] h [false, false] 60 hq rfl ⟨nI_i0 (by omega), (show xe_c .eq (xg 0 h.2.1 26 (nI u).toNatClampNeg) (Int32.ofInt (-1)) = false by rw [h1]; exact nI_e1 (by omega)), trivial⟩ (fun _ => ?_)
      rw [h1, nI_ad, nI_sub (by omega)]
      refine xq_ret rfl rfl rfl ⟨rfl, v + s - u, rfl, by omega, by omega, fun t w ht e => ?_, fun G F => ?_⟩
      · rcases Nat.lt_trichotomy t u with y | y | y
        · have := Hi t u w v y (by omega) e c; omega
        · rw [y, c] at e; cases e; omega
        · rw [no t (by omega) ht] at e; cases e
      have := fit_c F u s (by omega) hs
      have := F.1 u v (by omega) c
      omega
theorem low_q {f s : Nat} (c12 : C ≤ 12) (hh : HH C H h) (hs : s < C) (Hi : Hinc C H) (hq : a_rq a_tb h) : xq f xi_X5_lowest xmi_X5_lowest 0 [(0, .ref 21), (1, .int (nI s))] [] h (fun v h' => h = h' ∧ ∃ lo, v = some (.int (nI lo)) ∧ s ≤ lo ∧ lo ≤ 80 ∧ (∀ t v, t < s → H t = some v → v < lo) ∧ ∀ G, fit C H G → lo ≤ G s) := by
  refine xq_n 4 [0, 1, 2] [(0, .ref 21), (1, .int (nI s)), (2, .int (nI s - Int32.ofInt 1))] [] h [] 60 hq rfl trivial (fun _ => ?_)
  exact low_l c12 hh hs Hi hq s f (Nat.le_refl _) (fun t h1 h2 => by omega)
set_option maxRecDepth 100000 in
set_option maxHeartbeats 4000000 in
/-- Scales.highest -/
theorem hig_l {s l z : Nat} (c12 : C ≤ 12) (e8 : xg 0 h.2.1 21 8 = nI C) (hh : HH C H h) (hs : s < C) (l60 : l ≤ 60) (z1 : 1 ≤ z) (Hi : Hinc C H) (hq : a_rq a_tb h) : ∀ (n f a : Nat), a + n = C → s < a → (∀ t, s < t → t < a → H t = none) → xq f xi_X5_highest xmi_X5_highest 4 [(0, .ref 21), (1, .int (nI s)), (2, .int (nI l)), (3, .int (nI a))] [] h (fun v h' => h = h' ∧ ∃ hi, v = some (.int (nI hi)) ∧ hi ≤ 60 ∧ (∀ t v, s < t → t < C → H t = some v → hi < v) ∧ ∀ G, fit C H G → z * G s ≤ l → G s ≤ hi) := by
  intro n
  induction n with
  | zero =>
    intro f a hn sa no
    refine xq_n 40 [] [] [.int (nI l)] h [true] 60 hq rfl ⟨(show xe_c .ge (nI a) (xg 0 h.2.1 21 8) = true by rw [e8]; exact nge_t (by omega) (by omega) (by omega)), trivial⟩ (fun _ => ?_)
    refine xq_ret rfl rfl rfl ⟨rfl, l, rfl, l60, fun t v h1 h2 e => (by rw [no t h1 (by omega)] at e; cases e), fun G _ b => ?_⟩
    exact Nat.le_trans (Nat.le_mul_of_pos_left (G s) z1) b
  | succ n ih =>
    intro f a hn sa no
    obtain ⟨h1, h2⟩ := hh a (by omega)
    have ca : (nI a).toNatClampNeg = a := nI_clamp (by omega)
    have x8 : xe_c .ge (nI a) (xg 0 h.2.1 21 8) = false := by rw [e8]; exact nge_f (by omega) (by omega) (by omega)
    cases c : H a with
    | none =>
      rw [c] at h1
      refine xq_n 4 [0, 1, 2, 3] [(0, .ref 21), (1, .int (nI s)), (2, .int (nI l)), (3, .int (nI a + Int32.ofInt 1))] [] h [false, true] 60 hq rfl ⟨x8, (show xe_c .eq (xg 0 h.2.1 26 (nI a).toNatClampNeg) (Int32.ofInt (-1)) = true by rw [ca, h1]; rfl), trivial⟩ (fun _ => ?_)
      rw [nI_1']
      refine ih f (a + 1) (by omega) (by omega) (fun t h1 h2 => ?_)
      by_cases z : t = a
      · rw [z]; exact c
      · exact no t h1 (by omega)
    | some v =>
      rw [c] at h1
      obtain ⟨v1, v2⟩ := h2 v c
      have h1 : xg 0 h.2.1 26 (nI a).toNatClampNeg = nI v := by rw [ca]; exact h1
      refine xq_n 32 [] [] [.int (xg 0 h.2.1 26 (nI a).toNatClampNeg - (nI a - nI s))] h [false, false] 60 hq rfl ⟨x8, (show xe_c .eq (xg 0 h.2.1 26 (nI a).toNatClampNeg) (Int32.ofInt (-1)) = false by rw [h1]; exact nI_e1 (by omega)), trivial⟩ (fun _ => ?_)
      rw [h1, nI_sub (by omega), nI_sub (by omega)]
      refine xq_ret rfl rfl rfl ⟨rfl, v - (a - s), rfl, by omega, fun t w h1 h2 e => ?_, fun G F _ => ?_⟩
      · rcases Nat.lt_trichotomy t a with y | y | y
        · rw [no t h1 y] at e; cases e
        · rw [y, c] at e; cases e; omega
        · have := Hi a t v w y h2 c e; omega
      have := fit_c F s a (by omega) (by omega)
      have := F.1 a v (by omega) c
      omega
theorem hig_q {f s l z : Nat} (c12 : C ≤ 12) (e8 : xg 0 h.2.1 21 8 = nI C) (hh : HH C H h) (hs : s < C) (l60 : l ≤ 60) (z1 : 1 ≤ z) (Hi : Hinc C H) (hq : a_rq a_tb h) : xq f xi_X5_highest xmi_X5_highest 0 [(0, .ref 21), (1, .int (nI s)), (2, .int (nI l))] [] h (fun v h' => h = h' ∧ ∃ hi, v = some (.int (nI hi)) ∧ hi ≤ 60 ∧ (∀ t v, s < t → t < C → H t = some v → hi < v) ∧ ∀ G, fit C H G → z * G s ≤ l → G s ≤ hi) := by
  refine xq_n 4 [0, 1, 2, 3] [(0, .ref 21), (1, .int (nI s)), (2, .int (nI l)), (3, .int (nI s + Int32.ofInt 1))] [] h [] 60 hq rfl trivial (fun _ => ?_)
  rw [nI_1']
  exact hig_l c12 e8 hh hs l60 z1 Hi hq (C - (s + 1)) f (s + 1) (by omega) (by omega) (fun t h1 h2 => by omega)
set_option maxRecDepth 100000 in
set_option maxHeartbeats 4000000 in
/-- Scales.leastRest -/
theorem lea_l (c12 : C ≤ 12) (e8 : xg 0 h.2.1 21 8 = nI C) (hh : HH C H h) (e25 : ∀ t, t < C → xg 0 h.2.1 25 t = nI (zs t) ∧ zs t ≤ 12) (hq : a_rq a_tb h) : ∀ (n f t w r : Nat), t + n = C → w ≤ 61 + t → r ≤ t * 1000 → (∀ G, fit C H G → (t = 0 → w = 0) ∧ (0 < t → w ≤ G (t - 1) + 1) ∧ r ≤ frb H zs G t) → xq f xi_X5_leastRest xmi_X5_leastRest 6 [(0, .ref 21), (1, .int (nI w - Int32.ofInt 1)), (2, .int (nI r)), (3, .int (nI t))] [] h (fun v h' => h = h' ∧ ∃ lr, v = some (.int (nI lr)) ∧ lr ≤ 12000 ∧ ∀ G, fit C H G → lr ≤ frb H zs G C) := by
  intro n
  induction n with
  | zero =>
    intro f t w r hn wb rb I
    have e : t = C := by omega
    subst e
    refine xq_n 55 [] [] [.int (nI r)] h [true] 60 hq rfl ⟨(show xe_c .ge (nI t) (xg 0 h.2.1 21 8) = true by rw [e8]; exact nge_t (by omega) (by omega) (Nat.le_refl _)), trivial⟩ (fun _ => ?_)
    exact xq_ret rfl rfl rfl ⟨rfl, r, rfl, by omega, fun G F => (I G F).2.2⟩
  | succ n ih =>
    intro f t w r hn wb rb I
    obtain ⟨h1, h2⟩ := hh t (by omega)
    obtain ⟨z1, z2⟩ := e25 t (by omega)
    have ct : (nI t).toNatClampNeg = t := nI_clamp (by omega)
    have x8 : xe_c .ge (nI t) (xg 0 h.2.1 21 8) = false := by rw [e8]; exact nge_f (by omega) (by omega) (by omega)
    cases c : H t with
    | none =>
      rw [c] at h1
      have wz : w * zs t ≤ 80 * 12 := Nat.mul_le_mul (by omega) z2
      refine xq_n 6 [0, 1, 2, 3] [(0, .ref 21), (1, .int (nI w - Int32.ofInt 1 + Int32.ofInt 1)), (2, .int (nI r + (nI w - Int32.ofInt 1 + Int32.ofInt 1) * xg 0 h.2.1 25 (nI t).toNatClampNeg)), (3, .int (nI t + Int32.ofInt 1))] [] h [false, true] 60 hq rfl ⟨x8, (show xe_c .eq (xg 0 h.2.1 26 (nI t).toNatClampNeg) (Int32.ofInt (-1)) = true by rw [ct, h1]; rfl), trivial⟩ (fun _ => ?_)
      rw [nI_1', ct, z1, show nI w - Int32.ofInt 1 + Int32.ofInt 1 = nI w from Int32.sub_add_cancel _ _, nI_ml, nI_ad, ← nI_sub1 (k := w)]
      refine ih f (t + 1) (w + 1) _ (by omega) (by omega) (by omega) (fun G F => ?_)
      obtain ⟨i1, i2, i3⟩ := I G F
      have wG : w ≤ G t := by
        rcases Nat.eq_zero_or_pos t with y | y
        · rw [i1 y]; exact Nat.zero_le _
        · have := i2 y
          have := F.2 (t - 1) t (by omega) (by omega)
          omega
      refine ⟨fun y => by omega, fun _ => (by show w + 1 ≤ G t + 1; omega), ?_⟩
      show r + w * zs t ≤ frb H zs G t + (if H t = none then zs t * G t else 0)
      rw [if_pos c]
      have := Nat.mul_le_mul_right (zs t) wG
      rw [Nat.mul_comm (G t)] at this
      omega
    | some v =>
      rw [c] at h1
      obtain ⟨v1, v2⟩ := h2 v c
      have h1 : xg 0 h.2.1 26 (nI t).toNatClampNeg = nI v := by rw [ct]; exact h1
      refine xq_n 6 [0, 1, 2, 3] [(0, .ref 21), (1, .int (xg 0 h.2.1 26 (nI t).toNatClampNeg)), (2, .int (nI r)), (3, .int (nI t + Int32.ofInt 1))] [] h [false, false] 60 hq rfl ⟨x8, (show xe_c .eq (xg 0 h.2.1 26 (nI t).toNatClampNeg) (Int32.ofInt (-1)) = false by rw [h1]; exact nI_e1 (by omega)), trivial⟩ (fun _ => ?_)
      rw [nI_1', h1, ← nI_sub1 (k := v)]
      refine ih f (t + 1) (v + 1) _ (by omega) (by omega) (by omega) (fun G F => ?_)
      obtain ⟨i1, i2, i3⟩ := I G F
      have := F.1 t v (by omega) c
      refine ⟨fun y => by omega, fun _ => (by show v + 1 ≤ G t + 1; omega), ?_⟩
      show r ≤ frb H zs G t + (if H t = none then zs t * G t else 0)
      omega
theorem lea_q {f : Nat} (c12 : C ≤ 12) (e8 : xg 0 h.2.1 21 8 = nI C) (hh : HH C H h) (e25 : ∀ t, t < C → xg 0 h.2.1 25 t = nI (zs t) ∧ zs t ≤ 12) (hq : a_rq a_tb h) : xq f xi_X5_leastRest xmi_X5_leastRest 0 [(0, .ref 21)] [] h (fun v h' => h = h' ∧ ∃ lr, v = some (.int (nI lr)) ∧ lr ≤ 12000 ∧ ∀ G, fit C H G → lr ≤ frb H zs G C) := by
  refine xq_n 6 [0, 1, 2, 3] [(0, .ref 21), (1, .int (Int32.ofInt (-1))), (2, .int (Int32.ofInt 0)), (3, .int (Int32.ofInt 0))] [] h [] 60 hq rfl trivial (fun _ => ?_)
  exact lea_l c12 e8 hh e25 hq C f 0 0 0 (by omega) (by omega) (by omega) (fun G F => ⟨fun _ => rfl, fun y => absurd y (Nat.lt_irrefl _), Nat.le_refl _⟩)
set_option maxRecDepth 100000 in
set_option maxHeartbeats 4000000 in
/-- Scales.mostRest -/
theorem mos_l (c12 : C ≤ 12) (hh : HH C H h) (e25 : ∀ t, t < C → xg 0 h.2.1 25 t = nI (zs t) ∧ zs t ≤ 12) (hq : a_rq a_tb h) : ∀ (u f r : Nat) (wo : Option Nat), u ≤ C → r + u * 1000 ≤ C * 1000 → (wo = none → u = C) → (∀ w, wo = some w → u < C ∧ u ≤ w ∧ w ≤ 60 ∧ ∀ G, fit C H G → G u ≤ w) → (∀ G, fit C H G → frw C H zs G u ≤ r) → xq f xi_X5_mostRest xmi_X5_mostRest 11 [(0, .ref 21), (1, .int (hO wo)), (2, .int (nI r)), (3, .int (nI u - Int32.ofInt 1))] [] h (fun v h' => h = h' ∧ ∃ mr, v = some (.int (nI mr)) ∧ mr ≤ 12000 ∧ ∀ G, fit C H G → frw C H zs G 0 ≤ 60 → frw C H zs G 0 ≤ mr) := by
  intro u
  induction u with
  | zero =>
    intro f r wo hu rb i1 i2 i3
    refine xq_n 64 [] [] [.int (nI r)] h [true] 60 hq rfl ⟨rfl, trivial⟩ (fun _ => ?_)
    exact xq_ret rfl rfl rfl ⟨rfl, r, rfl, by omega, fun G F _ => i3 G F⟩
  | succ u ih =>
    intro f r wo hu rb i1 i2 i3
    obtain ⟨h1, h2⟩ := hh u (by omega)
    obtain ⟨z1, z2⟩ := e25 u (by omega)
    have cu : (nI u).toNatClampNeg = u := nI_clamp (by omega)
    rw [nI_sub1]
    cases c : H u with
    | some v =>
      rw [c] at h1
      obtain ⟨v1, v2⟩ := h2 v c
      have h1 : xg 0 h.2.1 26 (nI u).toNatClampNeg = nI v := by rw [cu]; exact h1
      refine xq_n 11 [0, 1, 2, 3] [(0, .ref 21), (1, .int (xg 0 h.2.1 26 (nI u).toNatClampNeg)), (2, .int (nI r)), (3, .int (nI u + Int32.ofInt (-1)))] [] h [false, false] 60 hq rfl ⟨nI_i0 (by omega), (show xe_c .eq (xg 0 h.2.1 26 (nI u).toNatClampNeg) (Int32.ofInt (-1)) = false by rw [h1]; exact nI_e1 (by omega)), trivial⟩ (fun _ => ?_)
      rw [x_m1, h1]
      refine ih f r (some v) (by omega) (by omega) (fun y => by cases y) (fun w e => ?_) (fun G F => ?_)
      · cases e
        exact ⟨by omega, v1, v2, fun G F => Nat.le_of_eq (F.1 u v (by omega) c)⟩
      · rw [frw_s (by omega), if_neg (by rw [c]; exact fun y => by cases y)]
        exact i3 G F
    | none =>
      rw [c] at h1
      have h1 : xg 0 h.2.1 26 (nI u).toNatClampNeg = Int32.ofInt (-1) := by rw [cu]; exact h1
      have x1 : xe_c .eq (xg 0 h.2.1 26 (nI u).toNatClampNeg) (Int32.ofInt (-1)) = true := by rw [h1]; rfl
      cases wo with
      | none =>
        refine xq_n 42 [] [] [.int 60] h [false, true, false] 60 hq rfl ⟨nI_i0 (by omega), x1, rfl, trivial⟩ (fun _ => ?_)
        exact xq_ret rfl rfl rfl ⟨rfl, 60, rfl, by omega, fun G F b => b⟩
      | some w =>
        obtain ⟨j1, j2, j3, j4⟩ := i2 w rfl
        obtain ⟨w', rfl⟩ : ∃ w', w = w' + 1 := ⟨w - 1, by omega⟩
        have wz : w' * zs u ≤ 60 * 12 := Nat.mul_le_mul (by omega) z2
        refine xq_n 11 [0, 1, 2, 3] [(0, .ref 21), (1, .int (nI (w' + 1) + Int32.ofInt (-1))), (2, .int (nI r + (nI (w' + 1) + Int32.ofInt (-1)) * xg 0 h.2.1 25 (nI u).toNatClampNeg)), (3, .int (nI u + Int32.ofInt (-1)))] [] h [false, true, true] 60 hq rfl ⟨nI_i0 (by omega), x1, nI_n1 (by omega), trivial⟩ (fun _ => ?_)
        rw [x_m1 (nI u), nI_dec2, cu, z1, nI_ml, nI_ad]
        refine ih f _ (some w') (by omega) (by omega) (fun y => by cases y) (fun w e => ?_) (fun G F => ?_)
        · cases e
          refine ⟨by omega, by omega, by omega, fun G F => ?_⟩
          have := j4 G F
          have := F.2 u (u + 1) (by omega) j1
          omega
        · rw [frw_s (by omega), if_pos c]
          have a := i3 G F
          have b := j4 G F
          have d := F.2 u (u + 1) (by omega) j1
          have e := Nat.mul_le_mul_right (zs u) (show G u ≤ w' by omega)
          rw [Nat.mul_comm (G u)] at e
          omega
theorem mos_q {f : Nat} (c12 : C ≤ 12) (e8 : xg 0 h.2.1 21 8 = nI C) (hh : HH C H h) (e25 : ∀ t, t < C → xg 0 h.2.1 25 t = nI (zs t) ∧ zs t ≤ 12) (hq : a_rq a_tb h) : xq f xi_X5_mostRest xmi_X5_mostRest 0 [(0, .ref 21)] [] h (fun v h' => h = h' ∧ ∃ mr, v = some (.int (nI mr)) ∧ mr ≤ 12000 ∧ ∀ G, fit C H G → frw C H zs G 0 ≤ 60 → frw C H zs G 0 ≤ mr) := by
  refine xq_n 11 [0, 1, 2, 3] [(0, .ref 21), (1, .int (Int32.ofInt (-1))), (2, .int (Int32.ofInt 0)), (3, .int (xg 0 h.2.1 21 8 - Int32.ofInt 1))] [] h [] 60 hq rfl trivial (fun _ => ?_)
  rw [e8]
  exact mos_l c12 hh e25 hq C f 0 none (Nat.le_refl _) (by omega) (fun _ => rfl) (fun w e => by cases e) (fun G F => by rw [frw_C]; exact Nat.le_refl _)
end
end XWI
end
section
section XWJ
section
variable {W : Nat → Bool} {m : Nat} {h : xh_H} {g : Nat → Nat}
/-- the row that is tried -/
def rwI (W : Nat → Bool) (m : Nat) (g : Nat → Nat) (h : xh_H) : Prop := ∀ a, a < m → xg 0 h.2.1 27 a = nI (g (cl W m a))
theorem nI_bl {x : Nat} {b : Bool} : nI x * bl b = nI (if b = true then x else 0) := by
  cases b
  · rw [show bl false = nI 0 from rfl, nI_ml, if_neg (by decide)]; rfl
  · rw [show bl true = nI 1 from rfl, nI_ml, if_pos rfl, Nat.mul_one]
set_option maxRecDepth 100000 in
set_option maxHeartbeats 4000000 in
/-- Scales.weightOf -/
theorem wto_l {S : Nat} (R : rwI W m g h) (e7 : xg 0 h.2.1 14 7 = nI m) (m12 : m ≤ 12) (hS : S < 2 ^ m) (hq : a_rq a_tb h) : ∀ (n f a : Nat), a + n = m → xq f xi_X5_weightOf xmi_X5_weightOf 4 [(0, .ref 21), (1, .int (nI S)), (2, .int (nI (sm (fun a => if S.testBit a = true then g (cl W m a) else 0) a))), (3, .int (nI a))] [] h (fun v h' => h = h' ∧ v = some (.int (nI (wtg W m g S)))) := by
  intro n
  induction n with
  | zero =>
    intro f a hn
    have e : a = m := by omega
    subst e
    refine xq_n 37 [] [] [.int (nI (sm (fun b => if S.testBit b = true then g (cl W a b) else 0) a))] h [true] 60 hq rfl ⟨(show xe_c .ge (nI a) (xg 0 h.2.1 14 7) = true by rw [e7]; exact nge_t (by omega) (by omega) (Nat.le_refl _)), trivial⟩ (fun _ => ?_)
    exact xq_ret rfl rfl rfl ⟨rfl, rfl⟩
  | succ n ih =>
    intro f a hn
    have eb := rb0 m12 hS (show a < m by omega)
    refine xq_n 4 [0, 1, 2, 3] [(0, .ref 21), (1, .int (nI S)), (2, .int (nI (sm (fun a => if S.testBit a = true then g (cl W m a) else 0) a) + xg 0 h.2.1 27 (nI a).toNatClampNeg * ((nI S >>> (nI a &&& 31)) &&& Int32.ofInt 1))), (3, .int (nI a + Int32.ofInt 1))] [] h [false] 60 hq rfl ⟨(show xe_c .ge (nI a) (xg 0 h.2.1 14 7) = false by rw [e7]; exact nge_f (by omega) (by omega) (by omega)), trivial⟩ (fun _ => ?_)
    rw [nI_1', nI_clamp (by omega), R a (by omega), eb, nI_bl, nI_ad]
    exact ih f (a + 1) (by omega)
theorem wto_q {f S : Nat} (R : rwI W m g h) (e7 : xg 0 h.2.1 14 7 = nI m) (m12 : m ≤ 12) (hS : S < 2 ^ m) (hq : a_rq a_tb h) : xq f xi_X5_weightOf xmi_X5_weightOf 0 [(0, .ref 21), (1, .int (nI S))] [] h (fun v h' => h = h' ∧ v = some (.int (nI (wtg W m g S)))) := by
  refine xq_n 4 [0, 1, 2, 3] [(0, .ref 21), (1, .int (nI S)), (2, .int (Int32.ofInt 0)), (3, .int (Int32.ofInt 0))] [] h [] 60 hq rfl trivial (fun _ => ?_)
  exact wto_l R e7 m12 hS hq m f 0 (by omega)
theorem wtg_60 {S : Nat} (gb : ∀ c, c < nC W m → g c ≤ 60) : wtg W m g S ≤ m * 60 := sm_le m (fun a ha => by
  by_cases z : S.testBit a = true
  · rw [if_pos z]; exact gb _ (cl_lt ha)
  · rw [if_neg z]; omega)
set_option maxRecDepth 100000 in
set_option maxHeartbeats 4000000 in
/-- Scales.lightest -/
theorem lig15_l {Lc : Nat} (m12 : m ≤ 12) (R : rwI W m g h) (gb : ∀ c, c < nC W m → g c ≤ 60) (e7 : xg 0 h.2.1 14 7 = nI m) (L9 : Lc ≤ 924) (r1 : ∀ t, t < 2 ^ m → mi W m false t = true → ∃ j, j < Lc ∧ xg 0 h.2.1 15 j = nI t) (r2 : ∀ j, j < Lc → ∃ t, t < 2 ^ m ∧ mi W m false t = true ∧ xg 0 h.2.1 15 j = nI t) (hq : a_rq a_tb h) : ∀ (n f i t : Nat), i + n = Lc → t < 2 ^ m → mi W m false t = true → (∀ j t', j < i → t' < 2 ^ m → xg 0 h.2.1 15 j = nI t' → wtg W m g t ≤ wtg W m g t') → xq f xi_X5_lightest xmi_X5_lightest 14 [(0, .ref 21), (1, .ref 15), (2, .int (nI Lc)), (3, .int (nI t)), (4, .int (nI (wtg W m g t))), (5, .int (nI i))] [] h (fun v h' => h = h' ∧ ∃ t, t < 2 ^ m ∧ mi W m false t = true ∧ v = some (.int (nI t)) ∧ ∀ t', t' < 2 ^ m → mi W m false t' = true → wtg W m g t ≤ wtg W m g t') := by
  have p12 : 2 ^ m ≤ 4096 := show 2 ^ m ≤ 2 ^ 12 from Nat.pow_le_pow_right (by decide) m12
  intro n
  induction n with
  | zero =>
    intro f i t hn t1 t2 w
    refine xq_n 53 [] [] [.int (nI t)] h [true] 60 hq rfl ⟨nge_t (by omega) (by omega) (by omega), trivial⟩ (fun _ => ?_)
    refine xq_ret rfl rfl rfl ⟨rfl, t, t1, t2, rfl, fun t' h1 h2 => ?_⟩
    obtain ⟨j, j1, j2⟩ := r1 t' h1 h2
    exact w j t' (by omega) h1 j2
  | succ n ih =>
    intro f i t hn t1 t2 w
    obtain ⟨u, u1, u2, u3⟩ := r2 i (by omega)
    have ci : (nI i).toNatClampNeg = i := nI_clamp (by omega)
    have xu : xg 0 h.2.1 15 (nI i).toNatClampNeg = nI u := by rw [ci]; exact u3
    have b1 := wtg_60 (W := W) (S := u) gb
    have b2 := wtg_60 (W := W) (S := t) gb
    refine xq_n 25 [0, 1, 2, 3, 4, 5] [(0, .ref 21), (1, .ref 15), (2, .int (nI Lc)), (3, .int (nI t)), (4, .int (nI (wtg W m g t))), (5, .int (nI i))] [.int (xg 0 h.2.1 15 (nI i).toNatClampNeg), .ref 21] h [false] 60 hq rfl ⟨nge_f (by omega) (by omega) (by omega), trivial⟩ (fun _ => ?_)
    rw [xu]
    refine xq_run hq rfl rfl (wto_q R e7 m12 u1 hq) ?_
    rintro v h1 ⟨rfl, rfl⟩
    have uu : ∀ t', t' < 2 ^ m → xg 0 h.2.1 15 i = nI t' → t' = u := fun t' h1 e => by
      rw [u3] at e
      exact ((nI_eq (by omega) (by omega)).mp e).symm
    by_cases z : wtg W m g u < wtg W m g t
    · refine xq_n 14 [0, 1, 2, 3, 4, 5] [(0, .ref 21), (1, .ref 15), (2, .int (nI Lc)), (3, .int (xg 0 h.2.1 15 (nI i).toNatClampNeg)), (4, .int (nI (wtg W m g u))), (5, .int (nI i + Int32.ofInt 1))] [] h [false] 60 hq rfl ⟨nge_f (by omega) (by omega) z, trivial⟩ (fun _ => ?_)
      rw [xu, nI_1']
      refine ih f (i + 1) u (by omega) u1 u2 (fun j t' hj h1 e => ?_)
      by_cases y : j = i
      · rw [y] at e; rw [uu t' h1 e]; exact Nat.le_refl _
      · have := w j t' (by omega) h1 e; omega
    · refine xq_n 14 [0, 1, 2, 3, 4, 5] [(0, .ref 21), (1, .ref 15), (2, .int (nI Lc)), (3, .int (nI t)), (4, .int (nI (wtg W m g t))), (5, .int (nI i + Int32.ofInt 1))] [] h [true] 60 hq rfl ⟨nge_t (by omega) (by omega) (by omega), trivial⟩ (fun _ => ?_)
      rw [nI_1']
      refine ih f (i + 1) t (by omega) t1 t2 (fun j t' hj h1 e => ?_)
      by_cases y : j = i
      · rw [y] at e; rw [uu t' h1 e]; omega
      · exact w j t' (by omega) h1 e
set_option maxRecDepth 100000 in
set_option maxHeartbeats 4000000 in
theorem lig15_q {f Lc : Nat} (m12 : m ≤ 12) (R : rwI W m g h) (gb : ∀ c, c < nC W m → g c ≤ 60) (e7 : xg 0 h.2.1 14 7 = nI m) (L9 : Lc ≤ 924) (L1 : 1 ≤ Lc) (r1 : ∀ t, t < 2 ^ m → mi W m false t = true → ∃ j, j < Lc ∧ xg 0 h.2.1 15 j = nI t) (r2 : ∀ j, j < Lc → ∃ t, t < 2 ^ m ∧ mi W m false t = true ∧ xg 0 h.2.1 15 j = nI t) (hq : a_rq a_tb h) : xq f xi_X5_lightest xmi_X5_lightest 0 [(0, .ref 21), (1, .ref 15), (2, .int (nI Lc))] [] h (fun v h' => h = h' ∧ ∃ t, t < 2 ^ m ∧ mi W m false t = true ∧ v = some (.int (nI t)) ∧ ∀ t', t' < 2 ^ m → mi W m false t' = true → wtg W m g t ≤ wtg W m g t') := by
  have p12 : 2 ^ m ≤ 4096 := show 2 ^ m ≤ 2 ^ 12 from Nat.pow_le_pow_right (by decide) m12
  obtain ⟨u, u1, u2, u3⟩ := r2 0 (by omega)
  have xu : xg 0 h.2.1 15 (Int32.ofInt 0).toNatClampNeg = nI u := u3
  refine xq_n 6 [0, 1, 2, 3] [(0, .ref 21), (1, .ref 15), (2, .int (nI Lc)), (3, .int (xg 0 h.2.1 15 (Int32.ofInt 0).toNatClampNeg))] [.int (xg 0 h.2.1 15 (Int32.ofInt 0).toNatClampNeg), .ref 21] h [] 60 hq rfl trivial (fun _ => ?_)
  rw [xu]
  refine xq_run hq rfl rfl (wto_q R e7 m12 u1 hq) ?_
  rintro v h1 ⟨rfl, rfl⟩
  refine xq_n 14 [0, 1, 2, 3, 4, 5] [(0, .ref 21), (1, .ref 15), (2, .int (nI Lc)), (3, .int (nI u)), (4, .int (nI (wtg W m g u))), (5, .int (Int32.ofInt 1))] [] h [] 60 hq rfl trivial (fun _ => ?_)
  refine lig15_l m12 R gb e7 L9 r1 r2 hq (Lc - 1) f 1 u (by omega) u1 u2 (fun j t' hj h1 e => ?_)
  rw [show j = 0 by omega, u3] at e
  rw [(nI_eq (by omega) (by omega)).mp e]
  exact Nat.le_refl _
set_option maxRecDepth 100000 in
set_option maxHeartbeats 4000000 in
/-- Scales.lightest -/
theorem lig16_l {Lc : Nat} (m12 : m ≤ 12) (R : rwI W m g h) (gb : ∀ c, c < nC W m → g c ≤ 60) (e7 : xg 0 h.2.1 14 7 = nI m) (L9 : Lc ≤ 924) (r1 : ∀ t, t < 2 ^ m → mi W m true t = true → ∃ j, j < Lc ∧ xg 0 h.2.1 16 j = nI t) (r2 : ∀ j, j < Lc → ∃ t, t < 2 ^ m ∧ mi W m true t = true ∧ xg 0 h.2.1 16 j = nI t) (hq : a_rq a_tb h) : ∀ (n f i t : Nat), i + n = Lc → t < 2 ^ m → mi W m true t = true → (∀ j t', j < i → t' < 2 ^ m → xg 0 h.2.1 16 j = nI t' → wtg W m g t ≤ wtg W m g t') → xq f xi_X5_lightest xmi_X5_lightest 14 [(0, .ref 21), (1, .ref 16), (2, .int (nI Lc)), (3, .int (nI t)), (4, .int (nI (wtg W m g t))), (5, .int (nI i))] [] h (fun v h' => h = h' ∧ ∃ t, t < 2 ^ m ∧ mi W m true t = true ∧ v = some (.int (nI t)) ∧ ∀ t', t' < 2 ^ m → mi W m true t' = true → wtg W m g t ≤ wtg W m g t') := by
  have p12 : 2 ^ m ≤ 4096 := show 2 ^ m ≤ 2 ^ 12 from Nat.pow_le_pow_right (by decide) m12
  intro n
  induction n with
  | zero =>
    intro f i t hn t1 t2 w
    refine xq_n 53 [] [] [.int (nI t)] h [true] 60 hq rfl ⟨nge_t (by omega) (by omega) (by omega), trivial⟩ (fun _ => ?_)
    refine xq_ret rfl rfl rfl ⟨rfl, t, t1, t2, rfl, fun t' h1 h2 => ?_⟩
    obtain ⟨j, j1, j2⟩ := r1 t' h1 h2
    exact w j t' (by omega) h1 j2
  | succ n ih =>
    intro f i t hn t1 t2 w
    obtain ⟨u, u1, u2, u3⟩ := r2 i (by omega)
    have ci : (nI i).toNatClampNeg = i := nI_clamp (by omega)
    have xu : xg 0 h.2.1 16 (nI i).toNatClampNeg = nI u := by rw [ci]; exact u3
    have b1 := wtg_60 (W := W) (S := u) gb
    have b2 := wtg_60 (W := W) (S := t) gb
    refine xq_n 25 [0, 1, 2, 3, 4, 5] [(0, .ref 21), (1, .ref 16), (2, .int (nI Lc)), (3, .int (nI t)), (4, .int (nI (wtg W m g t))), (5, .int (nI i))] [.int (xg 0 h.2.1 16 (nI i).toNatClampNeg), .ref 21] h [false] 60 hq rfl ⟨nge_f (by omega) (by omega) (by omega), trivial⟩ (fun _ => ?_)
    rw [xu]
    refine xq_run hq rfl rfl (wto_q R e7 m12 u1 hq) ?_
    rintro v h1 ⟨rfl, rfl⟩
    have uu : ∀ t', t' < 2 ^ m → xg 0 h.2.1 16 i = nI t' → t' = u := fun t' h1 e => by
      rw [u3] at e
      exact ((nI_eq (by omega) (by omega)).mp e).symm
    by_cases z : wtg W m g u < wtg W m g t
    · refine xq_n 14 [0, 1, 2, 3, 4, 5] [(0, .ref 21), (1, .ref 16), (2, .int (nI Lc)), (3, .int (xg 0 h.2.1 16 (nI i).toNatClampNeg)), (4, .int (nI (wtg W m g u))), (5, .int (nI i + Int32.ofInt 1))] [] h [false] 60 hq rfl ⟨nge_f (by omega) (by omega) z, trivial⟩ (fun _ => ?_)
      rw [xu, nI_1']
      refine ih f (i + 1) u (by omega) u1 u2 (fun j t' hj h1 e => ?_)
      by_cases y : j = i
      · rw [y] at e; rw [uu t' h1 e]; exact Nat.le_refl _
      · have := w j t' (by omega) h1 e; omega
    · refine xq_n 14 [0, 1, 2, 3, 4, 5] [(0, .ref 21), (1, .ref 16), (2, .int (nI Lc)), (3, .int (nI t)), (4, .int (nI (wtg W m g t))), (5, .int (nI i + Int32.ofInt 1))] [] h [true] 60 hq rfl ⟨nge_t (by omega) (by omega) (by omega), trivial⟩ (fun _ => ?_)
      rw [nI_1']
      refine ih f (i + 1) t (by omega) t1 t2 (fun j t' hj h1 e => ?_)
      by_cases y : j = i
      · rw [y] at e; rw [uu t' h1 e]; omega
      · exact w j t' (by omega) h1 e
set_option maxRecDepth 100000 in
set_option maxHeartbeats 4000000 in
theorem lig16_q {f Lc : Nat} (m12 : m ≤ 12) (R : rwI W m g h) (gb : ∀ c, c < nC W m → g c ≤ 60) (e7 : xg 0 h.2.1 14 7 = nI m) (L9 : Lc ≤ 924) (L1 : 1 ≤ Lc) (r1 : ∀ t, t < 2 ^ m → mi W m true t = true → ∃ j, j < Lc ∧ xg 0 h.2.1 16 j = nI t) (r2 : ∀ j, j < Lc → ∃ t, t < 2 ^ m ∧ mi W m true t = true ∧ xg 0 h.2.1 16 j = nI t) (hq : a_rq a_tb h) : xq f xi_X5_lightest xmi_X5_lightest 0 [(0, .ref 21), (1, .ref 16), (2, .int (nI Lc))] [] h (fun v h' => h = h' ∧ ∃ t, t < 2 ^ m ∧ mi W m true t = true ∧ v = some (.int (nI t)) ∧ ∀ t', t' < 2 ^ m → mi W m true t' = true → wtg W m g t ≤ wtg W m g t') := by
  have p12 : 2 ^ m ≤ 4096 := show 2 ^ m ≤ 2 ^ 12 from Nat.pow_le_pow_right (by decide) m12
  obtain ⟨u, u1, u2, u3⟩ := r2 0 (by omega)
  have xu : xg 0 h.2.1 16 (Int32.ofInt 0).toNatClampNeg = nI u := u3
  refine xq_n 6 [0, 1, 2, 3] [(0, .ref 21), (1, .ref 16), (2, .int (nI Lc)), (3, .int (xg 0 h.2.1 16 (Int32.ofInt 0).toNatClampNeg))] [.int (xg 0 h.2.1 16 (Int32.ofInt 0).toNatClampNeg), .ref 21] h [] 60 hq rfl trivial (fun _ => ?_)
  rw [xu]
  refine xq_run hq rfl rfl (wto_q R e7 m12 u1 hq) ?_
  rintro v h1 ⟨rfl, rfl⟩
  refine xq_n 14 [0, 1, 2, 3, 4, 5] [(0, .ref 21), (1, .ref 16), (2, .int (nI Lc)), (3, .int (nI u)), (4, .int (nI (wtg W m g u))), (5, .int (Int32.ofInt 1))] [] h [] 60 hq rfl trivial (fun _ => ?_)
  refine lig16_l m12 R gb e7 L9 r1 r2 hq (Lc - 1) f 1 u (by omega) u1 u2 (fun j t' hj h1 e => ?_)
  rw [show j = 0 by omega, u3] at e
  rw [(nI_eq (by omega) (by omega)).mp e]
  exact Nat.le_refl _
/-- a set of a kind, told in a field -/
def ltI (W : Nat → Bool) (m : Nat) (hd : Bool) (k : Nat) (h : xh_H) : Prop := ∃ t, t < 2 ^ m ∧ mi W m hd t = true ∧ xg 0 h.2.1 21 k = nI t
def F12 (c k : Nat) : Bool := Nat.beq c 21 && (Nat.beq k 12 || Nat.beq k 13)
set_option maxRecDepth 100000 in
set_option maxHeartbeats 4000000 in
/-- Scales.doesTheSame -/
theorem dts_q {f s : Nat} (m12 : m ≤ 12) (M : Wm W m) (P : PD W m h) (R : rwI W m g h) (gb : ∀ c, c < nC W m → g c ≤ 60) (e7 : xg 0 h.2.1 14 7 = nI m) (s60 : s ≤ 60) (e9 : xg 0 h.2.1 21 9 = nI s) (I1 : ltI W m false 12 h) (I2 : ltI W m true 13 h) (hq : a_rq a_tb h) : xq f xi_X5_doesTheSame xmi_X5_doesTheSame 0 [(0, .ref 21)] [] h (fun v h' => fx F12 fN h h' ∧ ltI W m false 12 h' ∧ ltI W m true 13 h' ∧ v = some (.int (bl (rgt' W m s g)))) := by
  have p12 : 2 ^ m ≤ 4096 := show 2 ^ m ≤ 2 ^ 12 from Nat.pow_le_pow_right (by decide) m12
  have l9 := mi_924 (hd := false) m12 M
  have h9 := mi_924 (hd := true) m12 M
  obtain ⟨t, t1, t2, t3⟩ := I1
  obtain ⟨u, u1, u2, u3⟩ := I2
  have b1 := wtg_60 (W := W) (S := t) gb
  have b2 := wtg_60 (W := W) (S := u) gb
  refine xq_n 5 [0] [(0, .ref 21)] [.int (xg 0 h.2.1 21 12), .ref 21] h [] 60 hq rfl trivial (fun _ => ?_)
  rw [t3]
  refine xq_run hq rfl rfl (wto_q R e7 m12 t1 hq) ?_
  rintro v h1 ⟨rfl, rfl⟩
  refine xq_n 13 [0] [(0, .ref 21)] [.int (xg 0 h.2.1 21 13), .ref 21, .int (nI (wtg W m g t))] h [] 60 hq rfl trivial (fun _ => ?_)
  rw [u3]
  refine xq_run hq rfl rfl (wto_q R e7 m12 u1 hq) ?_
  rintro v h1 ⟨rfl, rfl⟩
  have ew : nI (wtg W m g t) + nI (wtg W m g u) = nI (wtg W m g t + wtg W m g u) := nI_ad
  by_cases z : s < wtg W m g t + wtg W m g u
  · obtain ⟨ra, rb⟩ := rw_all m12 M P.2.2.1.2
    obtain ⟨ra', rb'⟩ := rw_all m12 M P.2.2.2.1.2
    have lp : 1 ≤ cnt (mi W m false) (2 ^ m) := by have := cnt_lt t2 t1; omega
    have hp : 1 ≤ cnt (mi W m true) (2 ^ m) := by have := cnt_lt u2 u1; omega
    refine xq_n 42 [0] [(0, .ref 21)] [.int (xg 0 h.2.1 14 9), .ref 15, .ref 21, .ref 21] h [true] 60 hq rfl ⟨(show xe_c .gt (nI (wtg W m g t) + nI (wtg W m g u)) (xg 0 h.2.1 21 9) = true by rw [ew, e9]; exact ngt_t (by omega) (by omega) z), trivial⟩ (fun _ => ?_)
    rw [P.2.2.1.1, lcn_e m12 M]
    refine xq_run hq rfl rfl (lig15_q m12 R gb e7 l9 lp ra (fun j hj => (by obtain ⟨a, a1, a2, -, a4⟩ := rb j hj; exact ⟨a, a1, a2, a4⟩)) hq) ?_
    rintro v h1 ⟨rfl, tL, L1, L2, rfl, L4⟩
    refine xq_n 48 [0] [(0, .ref 21)] [] (xh_ui h 21 12 (nI tL)) [] 60 hq rfl trivial (fun _ => ?_)
    have hq : a_rq a_tb (xh_ui h 21 12 (nI tL)) := a_rq_ui hq
    have g1 : fx F12 fN h (xh_ui h 21 12 (nI tL)) := fx_ui fx_0 rfl
    have x10 : xg 0 (xh_ui h 21 12 (nI tL)).2.1 14 10 = nI (cnt (mi W m true) (2 ^ m)) := (gx_o (by decide)).trans (by rw [P.2.2.2.1.1, lcn_e m12 M])
    refine xq_n 64 [0] [(0, .ref 21)] [.int (xg 0 (xh_ui h 21 12 (nI tL)).2.1 14 10), .ref 16, .ref 21, .ref 21] (xh_ui h 21 12 (nI tL)) [] 60 hq rfl trivial (fun _ => ?_)
    rw [x10]
    refine xq_run hq rfl rfl (lig16_q m12 (fun a ha => (gx_o (by decide)).trans (R a ha)) gb ((gx_o (by decide)).trans e7) h9 hp (fun t ht pt => (by obtain ⟨j, j1, j2⟩ := ra' t ht pt; exact ⟨j, j1, (gx_o (by decide)).trans j2⟩)) (fun j hj => (by obtain ⟨a, a1, a2, -, a4⟩ := rb' j hj; exact ⟨a, a1, a2, (gx_o (by decide)).trans a4⟩)) hq) ?_
    rintro v h1 ⟨rfl, tH, H1, H2, rfl, H4⟩
    have hq2 : a_rq a_tb (xh_ui (xh_ui h 21 12 (nI tL)) 21 13 (nI tH)) := a_rq_ui hq
    have g2 : fx F12 fN h (xh_ui (xh_ui h 21 12 (nI tL)) 21 13 (nI tH)) := fx_ui g1 rfl
    have x12 : xg 0 (xh_ui (xh_ui h 21 12 (nI tL)) 21 13 (nI tH)).2.1 21 12 = nI tL := (gx_k (by decide)).trans gx_s
    have x13 : xg 0 (xh_ui (xh_ui h 21 12 (nI tL)) 21 13 (nI tH)).2.1 21 13 = nI tH := gx_s
    have R2 : rwI W m g (xh_ui (xh_ui h 21 12 (nI tL)) 21 13 (nI tH)) := fun a ha => (fx_i g2 rfl).trans (R a ha)
    have e72 : xg 0 (xh_ui (xh_ui h 21 12 (nI tL)) 21 13 (nI tH)).2.1 14 7 = nI m := (fx_i g2 rfl).trans e7
    have e92 : xg 0 (xh_ui (xh_ui h 21 12 (nI tL)) 21 13 (nI tH)).2.1 21 9 = nI s := (fx_i g2 rfl).trans e9
    refine xq_n 75 [0] [(0, .ref 21)] [.int (xg 0 (xh_ui (xh_ui h 21 12 (nI tL)) 21 13 (nI tH)).2.1 21 12), .ref 21] (xh_ui (xh_ui h 21 12 (nI tL)) 21 13 (nI tH)) [] 60 hq rfl trivial (fun _ => ?_)
    rw [x12]
    refine xq_run hq2 rfl rfl (wto_q R2 e72 m12 L1 hq2) ?_
    rintro v h1 ⟨rfl, rfl⟩
    refine xq_n 83 [0] [(0, .ref 21)] [.int (xg 0 (xh_ui (xh_ui h 21 12 (nI tL)) 21 13 (nI tH)).2.1 21 13), .ref 21, .int (nI (wtg W m g tL))] (xh_ui (xh_ui h 21 12 (nI tL)) 21 13 (nI tH)) [] 60 hq2 rfl trivial (fun _ => ?_)
    rw [x13]
    refine xq_run hq2 rfl rfl (wto_q R2 e72 m12 H1 hq2) ?_
    rintro v h1 ⟨rfl, rfl⟩
    have c1 := wtg_60 (W := W) (S := tL) gb
    have c2 := wtg_60 (W := W) (S := tH) gb
    have ew2 : nI (wtg W m g tL) + nI (wtg W m g tH) = nI (wtg W m g tL + wtg W m g tH) := nI_ad
    by_cases y : s < wtg W m g tL + wtg W m g tH
    · refine xq_n 99 [] [] [.int (Int32.ofInt 1)] (xh_ui (xh_ui h 21 12 (nI tL)) 21 13 (nI tH)) [false] 60 hq2 rfl ⟨(show xe_c .le (nI (wtg W m g tL) + nI (wtg W m g tH)) (xg 0 (xh_ui (xh_ui h 21 12 (nI tL)) 21 13 (nI tH)).2.1 21 9) = false by rw [ew2, e92]; exact nle_f (by omega) (by omega) y), trivial⟩ (fun _ => ?_)
      refine xq_ret rfl rfl rfl ⟨g2, ⟨tL, L1, L2, x12⟩, ⟨tH, H1, H2, x13⟩, ?_⟩
      rw [rgt_i (fun L H hL hH pL pH => ?_)]
      · rfl
      · have := L4 L hL pL; have := H4 H hH pH; omega
    · refine xq_n 99 [] [] [.int (Int32.ofInt 0)] (xh_ui (xh_ui h 21 12 (nI tL)) 21 13 (nI tH)) [true] 60 hq2 rfl ⟨(show xe_c .le (nI (wtg W m g tL) + nI (wtg W m g tH)) (xg 0 (xh_ui (xh_ui h 21 12 (nI tL)) 21 13 (nI tH)).2.1 21 9) = true by rw [ew2, e92]; exact nle_t (by omega) (by omega) (by omega)), trivial⟩ (fun _ => ?_)
      exact xq_ret rfl rfl rfl ⟨g2, ⟨tL, L1, L2, x12⟩, ⟨tH, H1, H2, x13⟩, by rw [rgt_f L1 H1 L2 H2 (by omega)]; rfl⟩
  · refine xq_n 25 [] [] [.int (Int32.ofInt 0)] h [false] 60 hq rfl ⟨(show xe_c .gt (nI (wtg W m g t) + nI (wtg W m g u)) (xg 0 h.2.1 21 9) = false by rw [ew, e9]; exact ngt_f (by omega) (by omega) (by omega)), trivial⟩ (fun _ => ?_)
    exact xq_ret rfl rfl rfl ⟨fx_0, ⟨t, t1, t2, t3⟩, ⟨u, u1, u2, u3⟩, by rw [rgt_f t1 u1 t2 u2 (by omega)]; rfl⟩
def F22 (c k : Nat) : Bool := Nat.beq c 22 || (Nat.beq c 21 && Nat.beq k 1)
set_option maxRecDepth 100000 in
set_option maxHeartbeats 4000000 in
/-- Scales.tell -/
theorem tel_l {hb : xh_H} (m12 : m ≤ 12) (e7 : xg 0 hb.2.1 14 7 = nI m) (R : rwI W m g hb) (I1 : ltI W m false 12 hb) : ∀ (n f a : Nat) (h : xh_H), a + n = 12 → a_rq a_tb h → fx F22 fN hb h → xq f xi_X5_tell xmi_X5_tell 2 [(0, .ref 21), (1, .int (nI a))] [] h (fun v h' => v = none ∧ fx F22 fN hb h') := by
  intro n
  induction n with
  | zero =>
    intro f a h hn hq ge
    obtain ⟨t, t1, t2, t3⟩ := I1
    refine xq_n 47 [0] [(0, .ref 21)] [.int (xg 0 h.2.1 21 12), .ref 21, .ref 21] h [true] 60 hq rfl ⟨nge_t (b := 12) (by omega) (by decide) (by omega), trivial⟩ (fun _ => ?_)
    rw [show xg 0 h.2.1 21 12 = nI t from (fx_i ge rfl).trans t3]
    refine xq_run hq rfl rfl (wto_q (fun a ha => (fx_i ge rfl).trans (R a ha)) ((fx_i ge rfl).trans e7) m12 t1 hq) ?_
    rintro v h1 ⟨rfl, rfl⟩
    refine xq_n 53 [] [] [] (xh_ui h 21 1 (nI (wtg W m g t))) [] 60 hq rfl trivial (fun _ => ?_)
    exact xq_ret rfl rfl rfl ⟨rfl, fx_ui ge rfl⟩
  | succ n ih =>
    intro f a h hn hq ge
    have e7' : xg 0 h.2.1 14 7 = nI m := (fx_i ge rfl).trans e7
    have x0 : xe_c .ge (nI a) 12 = false := nge_f (b := 12) (by omega) (by decide) (by omega)
    by_cases z : a < m
    · refine xq_n 2 [0, 1] [(0, .ref 21), (1, .int (nI a + Int32.ofInt 1))] [] (xh_ui h 22 (nI a).toNatClampNeg (xg 0 h.2.1 27 (nI a).toNatClampNeg)) [false, false] 60 hq rfl ⟨x0, (show xe_c .ge (nI a) (xg 0 h.2.1 14 7) = false by rw [e7']; exact nge_f (by omega) (by omega) z), trivial⟩ (fun _ => ?_)
      rw [nI_1']
      exact ih f (a + 1) _ (by omega) (a_rq_ui hq) (fx_ui ge rfl)
    · refine xq_n 2 [0, 1] [(0, .ref 21), (1, .int (nI a + Int32.ofInt 1))] [] (xh_ui h 22 (nI a).toNatClampNeg (Int32.ofInt (-1))) [false, true] 60 hq rfl ⟨x0, (show xe_c .ge (nI a) (xg 0 h.2.1 14 7) = true by rw [e7']; exact nge_t (by omega) (by omega) (by omega)), trivial⟩ (fun _ => ?_)
      rw [nI_1']
      exact ih f (a + 1) _ (by omega) (a_rq_ui hq) (fx_ui ge rfl)
theorem tel_q {f : Nat} {hb : xh_H} (m12 : m ≤ 12) (e7 : xg 0 hb.2.1 14 7 = nI m) (R : rwI W m g hb) (I1 : ltI W m false 12 hb) (hq : a_rq a_tb hb) : xq f xi_X5_tell xmi_X5_tell 0 [(0, .ref 21)] [] hb (fun v h' => v = none ∧ fx F22 fN hb h') := by
  refine xq_n 2 [0, 1] [(0, .ref 21), (1, .int (Int32.ofInt 0))] [] hb [] 60 hq rfl trivial (fun _ => ?_)
  exact tel_l m12 e7 R I1 12 f 0 hb (by omega) hq fx_0
end
end XWJ
end
section
section XWK
def oc : Nat → Int32
  | 0 => -3
  | 1 => -2
  | s + 2 => nI s
theorem oc_3 {x : Nat} (h : x ≤ 62) : xe_c .ne (oc x) (-3) = decide (x ≠ 0) := by
  match x, h with
  | 0, _ => rfl
  | 1, _ => rfl
  | s + 2, h =>
    rw [decide_eq_true (by omega)]
    cases z : xe_c .ne (oc (s + 2)) (-3) with
    | true => rfl
    | false =>
      have e := congrArg Int32.toInt (xne_j z)
      have e2 : (oc (s + 2)).toInt = (s : Int) := nI_toInt (by omega)
      have e3 : (-3 : Int32).toInt = -3 := by decide
      omega
section
variable {W : Nat → Bool} {m : Nat}
/-- how far Scales has come -/
def SD (W : Nat → Bool) (m s : Nat) (st : Nat × Nat) (h : xh_H) : Prop := xg 0 h.2.1 21 9 = nI s ∧ xg 0 h.2.1 21 10 = nI st.1 ∧ xg 0 h.2.1 21 11 = oc st.2 ∧ ltI W m false 12 h ∧ ltI W m true 13 h ∧ (st.2 = 0 → st.1 ≤ 5000) ∧ st.2 ≤ 62
def FY (c k : Nat) : Bool := Nat.beq c 22 || (Nat.beq c 27 || (Nat.beq c 21 && (Nat.beq k 1 || (Nat.beq k 10 || (Nat.beq k 11 || (Nat.beq k 12 || Nat.beq k 13))))))
def FD (c k : Nat) : Bool := Nat.beq c 26 || FY c k
theorem F12_Y {h h' : xh_H} (g : fx F12 fN h h') : fx FY fN h h' := fx_w g (fun c k e => by
  unfold FY at e
  unfold F12
  rw [Bool.or_eq_false_iff, Bool.or_eq_false_iff] at e
  cases c1 : Nat.beq c 21 with
  | false => rfl
  | true =>
    obtain ⟨-, -, e⟩ := e
    rw [c1, Bool.true_and, Bool.or_eq_false_iff, Bool.or_eq_false_iff, Bool.or_eq_false_iff, Bool.or_eq_false_iff] at e
    rw [e.2.2.2.1, e.2.2.2.2]
    rfl) (fun _ _ e => e)
theorem F22_Y {h h' : xh_H} (g : fx F22 fN h h') : fx FY fN h h' := fx_w g (fun c k e => by
  unfold FY at e
  unfold F22
  rw [Bool.or_eq_false_iff, Bool.or_eq_false_iff] at e
  rw [e.1]
  cases c1 : Nat.beq c 21 with
  | false => rfl
  | true =>
    obtain ⟨-, -, e⟩ := e
    rw [c1, Bool.true_and, Bool.or_eq_false_iff] at e
    rw [e.1]
    rfl) (fun _ _ e => e)
theorem FY_D {h h' : xh_H} (g : fx FY fN h h') : fx FD fN h h' := fx_w g (fun c k e => by
  unfold FD at e
  rw [Bool.or_eq_false_iff] at e
  exact e.2) (fun _ _ e => e)
theorem CSt_f {h h' : xh_H} (X : CSt W m h) (g : fx FD fN h h') : CSt W m h' := by
  obtain ⟨P, e7, e8, e23, e24, e25⟩ := X
  exact ⟨PD_f P g (fun _ => rfl) (fun _ => rfl) (fun _ => rfl) (fun _ => rfl) (fun _ => rfl), (fx_i g rfl).trans e7, (fx_i g rfl).trans e8, fun a ha => (fx_i g rfl).trans (e23 a ha), fun a ha => (fx_i g rfl).trans (e24 a ha), fun a ha => (fx_i g rfl).trans (e25 a ha)⟩
def S27 (c _k : Nat) : Bool := Nat.beq c 27
theorem S27_Y {h h' : xh_H} (g : fx S27 fN h h') : fx FY fN h h' := fx_w g (fun c k e => by
  unfold FY at e
  rw [Bool.or_eq_false_iff, Bool.or_eq_false_iff] at e
  exact e.2.1) (fun _ _ e => e)
set_option maxRecDepth 100000 in
set_option maxHeartbeats 4000000 in
/-- Scales.tryRow, the row -/
theorem try_r {g : Nat → Nat} {hb : xh_H} (m12 : m ≤ 12) (X : CSt W m hb) (eh : ∀ a, a < m → xg 0 hb.2.1 26 (str W m a) = nI (g (cl W m a))) {Q : Option Value → xh_H → Prop} (K : ∀ (f : Nat) (h : xh_H), a_rq a_tb h → fx S27 fN hb h → rwI W m g h → xq f xi_X5_tryRow xmi_X5_tryRow 63 [(0, .ref 21)] [] h Q) : ∀ (n f a : Nat) (h : xh_H), a + n = m → a_rq a_tb h → fx S27 fN hb h → (∀ b, b < a → xg 0 h.2.1 27 b = nI (g (cl W m b))) → xq f xi_X5_tryRow xmi_X5_tryRow 29 [(0, .ref 21), (1, .int (nI a))] [] h Q := by
  intro n
  induction n with
  | zero =>
    intro f a h hn hq ge w
    have e7 : xg 0 h.2.1 14 7 = nI m := (fx_i ge rfl).trans X.2.1
    refine xq_n 63 [0] [(0, .ref 21)] [] h [true] 60 hq rfl ⟨(show xe_c .ge (nI a) (xg 0 h.2.1 14 7) = true by rw [e7]; exact nge_t (by omega) (by omega) (by omega)), trivial⟩ (fun _ => ?_)
    exact K f h hq ge (fun b hb => w b (by omega))
  | succ n ih =>
    intro f a h hn hq ge w
    have e7 : xg 0 h.2.1 14 7 = nI m := (fx_i ge rfl).trans X.2.1
    have ha : a < m := by omega
    have sl := str_c (W := W) ha
    have c12 := nC_m (W := W) (m := m)
    have ca : (nI a).toNatClampNeg = a := nI_clamp (by omega)
    have x23 : xg 0 h.2.1 23 (nI a).toNatClampNeg = nI (str W m a) := by rw [ca]; exact (fx_i ge rfl).trans (X.2.2.2.1 a ha)
    refine xq_n 29 [0, 1] [(0, .ref 21), (1, .int (nI a + Int32.ofInt 1))] [] (xh_ui h 27 (nI a).toNatClampNeg (xg 0 h.2.1 26 (xg 0 h.2.1 23 (nI a).toNatClampNeg).toNatClampNeg)) [false] 60 hq rfl ⟨(show xe_c .ge (nI a) (xg 0 h.2.1 14 7) = false by rw [e7]; exact nge_f (by omega) (by omega) ha), trivial⟩ (fun _ => ?_)
    rw [x23, nI_clamp (show str W m a < 2 ^ 31 by omega), ca, nI_1', show xg 0 h.2.1 26 (str W m a) = nI (g (cl W m a)) from (fx_i ge rfl).trans (eh a ha)]
    refine ih f (a + 1) _ (by omega) (a_rq_ui hq) (fx_ui ge rfl) (fun b hb => ?_)
    rw [gx_if]
    by_cases z : b = a
    · rw [if_pos z, z]
    · rw [if_neg z]; exact w b (by omega)
set_option maxRecDepth 100000 in
set_option maxHeartbeats 4000000 in
/-- Scales.tryRow -/
theorem try_q {f s : Nat} {g : Nat → Nat} {st : Nat × Nat} {hb : xh_H} (m12 : m ≤ 12) (M : Wm W m) (X : CSt W m hb) (eh : ∀ a, a < m → xg 0 hb.2.1 26 (str W m a) = nI (g (cl W m a))) (gb : ∀ c, c < nC W m → g c ≤ 60) (s60 : s ≤ 60) (D : SD W m s st hb) (s0 : st.2 = 0) (hq : a_rq a_tb hb) : xq f xi_X5_tryRow xmi_X5_tryRow 0 [(0, .ref 21)] [] hb (fun v h' => v = none ∧ fx FY fN hb h' ∧ SD W m s (vst (rgt' W m s) s g st) h') := by
  obtain ⟨d1, d2, d3, d4, d5, d6, d7⟩ := D
  have s5 := d6 s0
  have eh := eh
  refine xq_n 10 [0] [(0, .ref 21)] [] (xh_ui hb 21 10 (xg 0 hb.2.1 21 10 + Int32.ofInt 1)) [] 60 hq rfl trivial (fun _ => ?_)
  rw [d2, nI_1']
  have hq1 : a_rq a_tb (xh_ui hb 21 10 (nI (st.1 + 1))) := a_rq_ui hq
  have g1 : fx FY fN hb (xh_ui hb 21 10 (nI (st.1 + 1))) := fx_ui fx_0 rfl
  have lt1 : ∀ {hd : Bool} {k : Nat} {h h' : xh_H}, xg 0 h'.2.1 21 k = xg 0 h.2.1 21 k → ltI W m hd k h → ltI W m hd k h' := fun e I => by
    obtain ⟨t, t1, t2, t3⟩ := I
    exact ⟨t, t1, t2, e.trans t3⟩
  by_cases t5 : 5000 < st.1 + 1
  · rw [vst_t s0 t5]
    refine xq_n 26 [] [] [] (xh_ui (xh_ui hb 21 10 (nI (st.1 + 1))) 21 11 (-2)) [false] 60 hq1 rfl ⟨(show xe_c .le (xg 0 (xh_ui hb 21 10 (nI (st.1 + 1))).2.1 21 10) 5000 = false by rw [gx_s]; exact nle_f (b := 5000) (by omega) (by decide) t5), trivial⟩ (fun _ => ?_)
    refine xq_ret rfl rfl rfl ⟨rfl, fx_ui g1 rfl, (gx_k (by decide)).trans ((gx_k (by decide)).trans d1), (gx_k (by decide)).trans gx_s, gx_s, lt1 ((gx_k (by decide)).trans (gx_k (by decide))) d4, lt1 ((gx_k (by decide)).trans (gx_k (by decide))) d5, fun z => (by cases z), by show (1 : Nat) ≤ 62; decide⟩
  · refine xq_n 29 [0, 1] [(0, .ref 21), (1, .int (Int32.ofInt 0))] [] (xh_ui hb 21 10 (nI (st.1 + 1))) [true] 60 hq1 rfl ⟨(show xe_c .le (xg 0 (xh_ui hb 21 10 (nI (st.1 + 1))).2.1 21 10) 5000 = true by rw [gx_s]; exact nle_t (b := 5000) (by omega) (by decide) (by omega)), trivial⟩ (fun _ => ?_)
    refine try_r (g := g) m12 (CSt_f X (FY_D g1)) (fun a ha => (gx_o (by decide)).trans (eh a ha)) (fun f h hq g2 R => ?_) m f 0 _ (by omega) hq1 fx_0 (fun b hb => absurd hb (Nat.not_lt_zero _))
    have ge := fx_t g1 (S27_Y g2)
    have X2 := CSt_f X (FY_D ge)
    have f9 : xg 0 h.2.1 21 9 = nI s := (fx_i ge rfl).trans d1
    have f10 : xg 0 h.2.1 21 10 = nI (st.1 + 1) := (fx_i g2 rfl).trans gx_s
    have f11 : xg 0 h.2.1 21 11 = oc st.2 := (fx_i g2 rfl).trans ((gx_k (by decide)).trans d3)
    have l12 : ltI W m false 12 h := lt1 ((fx_i g2 rfl).trans (gx_k (by decide))) d4
    have l13 : ltI W m true 13 h := lt1 ((fx_i g2 rfl).trans (gx_k (by decide))) d5
    refine xq_n 64 [0] [(0, .ref 21)] [.ref 21] h [] 60 hq rfl trivial (fun _ => ?_)
    refine xq_run hq rfl rfl (dts_q m12 M X2.1 R gb X2.2.1 s60 f9 l12 l13 hq) ?_
    rintro v h1 ⟨g3, k12, k13, rfl⟩
    have hq3 := fx_q g3 hq
    have ge3 := fx_t ge (F12_Y g3)
    cases r : rgt' W m s g with
    | false =>
      rw [vst_x s0 t5 r]
      refine xq_n 82 [] [] [] h1 [true] 60 hq3 rfl ⟨rfl, trivial⟩ (fun _ => ?_)
      exact xq_ret rfl rfl rfl ⟨rfl, ge3, (fx_i g3 rfl).trans f9, (fx_i g3 rfl).trans f10, (fx_i g3 rfl).trans (by rw [f11, s0]), k12, k13, fun _ => (by show st.1 + 1 ≤ 5000; omega), by show (0 : Nat) ≤ 62; decide⟩
    | true =>
      rw [vst_r s0 t5 r]
      have h9 : xg 0 h1.2.1 21 9 = nI s := (fx_i g3 rfl).trans f9
      refine xq_n 79 [0] [(0, .ref 21)] [.ref 21] (xh_ui h1 21 11 (xg 0 h1.2.1 21 9)) [false] 60 hq3 rfl ⟨rfl, trivial⟩ (fun _ => ?_)
      rw [h9]
      have hq4 : a_rq a_tb (xh_ui h1 21 11 (nI s)) := a_rq_ui hq3
      have g4 : fx FY fN h1 (xh_ui h1 21 11 (nI s)) := fx_ui fx_0 rfl
      have ge4 := fx_t ge3 g4
      refine xq_run hq4 rfl rfl (tel_q m12 (CSt_f X (FY_D ge4)).2.1 (g := g) (fun a ha => (gx_o (by decide)).trans ((fx_i g3 rfl).trans (R a ha))) (lt1 (gx_k (by decide)) k12) hq4) ?_
      rintro v h5 ⟨rfl, g5⟩
      refine xq_ret rfl rfl rfl ⟨rfl, fx_t ge4 (F22_Y g5), (fx_i g5 rfl).trans ((gx_k (by decide)).trans h9), (fx_i g5 rfl).trans ((gx_k (by decide)).trans ((fx_i g3 rfl).trans f10)), (fx_i g5 rfl).trans gx_s, lt1 ((fx_i g5 rfl).trans (gx_k (by decide))) k12, lt1 ((fx_i g5 rfl).trans (gx_k (by decide))) k13, fun z => absurd z (Nat.succ_ne_zero _), by show s + 2 ≤ 62; omega⟩
end
end XWK
end
section
section XWL
section
variable {W : Nat → Bool} {m s : Nat}
theorem Hk_inc {C c : Nat} {σ g : Nat → Nat} (B : sbj C σ) (p : pre σ c g) : Hinc C (Hk C σ c g) := by
  intro x y a b l ly ex ey
  unfold Hk at ex ey
  split at ex
  · rename_i z1
    split at ey
    · rename_i z2
      cases ex
      cases ey
      obtain ⟨-, s1⟩ := tau_t B (show x < C by omega)
      obtain ⟨-, s2⟩ := tau_t B ly
      exact p _ _ z1 z2 (by omega)
    · cases ey
  · cases ex
theorem Hk_n {C c v t : Nat} {σ g : Nat → Nat} (B : sbj C σ) (ht : t < C) (hc : c < C) (h : t ≠ σ c) : Hk C σ (c + 1) (ug g c v) t = Hk C σ c g t := by
  have z : tau C σ t ≠ c := fun e => h (by rw [← e]; exact (tau_t B ht).2.symm)
  unfold Hk
  by_cases y : tau C σ t < c
  · rw [if_pos (by omega), if_pos y, ug_o z]
  · rw [if_neg (by omega), if_neg y]
/-- the sizes by strength -/
def zsv (W : Nat → Bool) (m t : Nat) : Nat := szc W m (tau (nC W m) (sg W m) t)
theorem zsv_e {h : xh_H} (L : Ln W m) (m12 : m ≤ 12) (X : CSt W m h) : ∀ t, t < nC W m → xg 0 h.2.1 25 t = nI (zsv W m t) ∧ zsv W m t ≤ 12 := fun t ht => by
  obtain ⟨t1, t2⟩ := tau_t (sbj_W L) ht
  refine ⟨?_, Nat.le_trans szc_m m12⟩
  rw [X.2.2.2.2.2 t ht]
  unfold zsv
  rw [← szc_s L t1, t2]
set_option maxRecDepth 100000 in
set_option maxHeartbeats 16000000 in
/-- Scales.place -/
theorem plc_q {hb : xh_H} (m12 : m ≤ 12) (M : Wm W m) (L : Ln W m) (Xb : CSt W m hb) (s60 : s ≤ 60) : ∀ (n c : Nat), c + n = nC W m → ∀ (f : Nat) (g : Nat → Nat) (l : Nat) (st : Nat × Nat) (h : xh_H), a_rq a_tb h → fx FD fN hb h → HH (nC W m) (Hk (nC W m) (sg W m) c g) h → pre (sg W m) c g → SD W m s st h → st.2 = 0 → l ≤ 60 → xq f xi_X5_place xmi_X5_place 0 [(0, .ref 21), (1, .int (nI c)), (2, .int (nI l))] [] h (fun v h' => v = none ∧ fx FD fN hb h' ∧ HH (nC W m) (Hk (nC W m) (sg W m) c g) h' ∧ SD W m s (Ks (nC W m) (sg W m) (szc W m) (vst (rgt' W m s) s) n c g l st) h') := by
  have c12 := nC_m (W := W) (m := m)
  have B := sbj_W L
  intro n
  induction n with
  | zero =>
    intro c e f g l st h hq ge hh p D s0 l60
    have eC : c = nC W m := by omega
    have X := CSt_f Xb ge
    have x8 : xe_c .lt (nI c) (xg 0 h.2.1 21 8) = false := by rw [X.2.2.1]; exact nlt_f (by omega) (by omega) (by omega)
    rw [Ks_0]
    by_cases l0 : l = 0
    · rw [if_pos ⟨l0, okw_i (fun i j hi hj z => p i j (by omega) (by omega) z)⟩]
      refine xq_n 13 [] [] [.ref 21] h [false, false] 60 hq rfl ⟨x8, (show xe_c .ne (nI l) 0 = false by rw [l0]; rfl), trivial⟩ (fun _ => ?_)
      have hk : ∀ i, i < nC W m → xg 0 h.2.1 26 (sg W m i) = nI (g i) ∧ g i ≤ 60 := fun i hi => by
        obtain ⟨h1, h2⟩ := hh _ (sg_lt hi)
        have e3 : Hk (nC W m) (sg W m) c g (sg W m i) = some (g i) := by rw [Hk_s B hi, if_pos (by omega)]
        rw [e3] at h1
        exact ⟨h1, (h2 _ e3).2⟩
      refine xq_run hq rfl rfl (try_q (g := g) m12 M X (fun a ha => by rw [← sg_cl ha]; exact (hk _ (cl_lt ha)).1) (fun c hc => (hk c hc).2) s60 D s0 hq) ?_
      rintro v h1 ⟨rfl, g1, D1⟩
      exact xq_ret rfl rfl rfl ⟨rfl, fx_t ge (FY_D g1), fun t ht => ⟨(fx_i g1 rfl).trans (hh t ht).1, (hh t ht).2⟩, D1⟩
    · rw [if_neg (fun y => l0 y.1)]
      refine xq_n 16 [] [] [] h [false, true] 60 hq rfl ⟨x8, nne_t (b := 0) (by omega) (by decide) l0, trivial⟩ (fun _ => ?_)
      exact xq_ret rfl rfl rfl ⟨rfl, ge, hh, D⟩
  | succ n ih =>
    intro c e f g l st h hq ge hh p D s0 l60
    have hc : c < nC W m := by omega
    have X := CSt_f Xb ge
    have sl := sg_lt hc
    have fm := (fsq1 hc).1
    have x8 : xe_c .lt (nI c) (xg 0 h.2.1 21 8) = true := by rw [X.2.2.1]; exact nlt_t (by omega) (by omega) hc
    have xs : xg 0 h.2.1 23 (xg 0 h.2.1 24 (nI c).toNatClampNeg).toNatClampNeg = nI (sg W m c) := by
      rw [nI_clamp (by omega), X.2.2.2.2.1 c hc, nI_clamp (by omega)]
      exact X.2.2.2.1 _ fm
    have cs' : (nI (sg W m c)).toNatClampNeg = sg W m c := nI_clamp (by omega)
    have Hi := Hk_inc B p
    have z1 := szc_1 hc
    have zm := szc_m (W := W) (m := m) (c := c)
    refine xq_n 31 [0, 1, 2, 3] [(0, .ref 21), (1, .int (nI c)), (2, .int (nI l)), (3, .int (xg 0 h.2.1 23 (xg 0 h.2.1 24 (nI c).toNatClampNeg).toNatClampNeg))] [.int (xg 0 h.2.1 23 (xg 0 h.2.1 24 (nI c).toNatClampNeg).toNatClampNeg), .ref 21] h [true] 60 hq rfl ⟨x8, trivial⟩ (fun _ => ?_)
    rw [xs]
    refine xq_run hq rfl rfl (low_q (by omega) hh sl Hi hq) ?_
    rintro v h1 ⟨rfl, lo, rfl, lo1, lo2, lo3, lo4⟩
    refine xq_n 39 [0, 1, 2, 3, 4] [(0, .ref 21), (1, .int (nI c)), (2, .int (nI l)), (3, .int (nI (sg W m c))), (4, .int (nI lo))] [.int (nI l), .int (nI (sg W m c)), .ref 21] h [] 60 hq rfl trivial (fun _ => ?_)
    refine xq_run hq rfl rfl (hig_q (z := szc W m c) (by omega) X.2.2.1 hh sl l60 z1 Hi hq) ?_
    rintro v h1 ⟨rfl, hi, rfl, hi1, hi2, hi3⟩
    refine xq_n 44 [0, 1, 2, 3, 4, 5] [(0, .ref 21), (1, .int (nI c)), (2, .int (nI l)), (3, .int (nI (sg W m c))), (4, .int (nI lo)), (5, .int (nI hi))] [] h [] 60 hq rfl trivial (fun _ => ?_)
    -- weights that can't be
    have pr : ∀ (v : Nat) (st : Nat × Nat), (szc W m c * v ≤ l → v < lo ∨ hi < v) → (if szc W m c * v ≤ l then Ks (nC W m) (sg W m) (szc W m) (vst (rgt' W m s) s) n (c + 1) (ug g c v) (l - szc W m c * v) st else st) = st := fun v st hv => by
      by_cases zl : szc W m c * v ≤ l
      · rw [if_pos zl]
        refine Ks_p n (c + 1) _ _ (by omega) (fun g' h1 _ _ => ?_)
        cases ok : okw (nC W m) (sg W m) g' with
        | false => rfl
        | true =>
          exfalso
          have F := fit_of B (k := c) (g := g) ok (fun i hi => (h1 i (by omega)).trans (ug_o (by omega)))
          have ek : g' (tau (nC W m) (sg W m) (sg W m c)) = v := by rw [tau_s B hc]; exact (h1 c (by omega)).trans ug_s
          have a := lo4 _ F
          have b := hi3 _ F
          rw [ek] at a b
          have := b zl
          rcases hv zl with y | y <;> omega
      · rw [if_neg zl]
    have loop : ∀ (u : Nat), u ≤ hi + 1 → ∀ (f : Nat) (st : Nat × Nat) (h : xh_H), a_rq a_tb h → fx FD fN hb h → (∀ t, t < nC W m → t ≠ sg W m c → xg 0 h.2.1 26 t = hO (Hk (nC W m) (sg W m) c g t)) → SD W m s st h → xq f xi_X5_place xmi_X5_place 44 [(0, .ref 21), (1, .int (nI c)), (2, .int (nI l)), (3, .int (nI (sg W m c))), (4, .int (nI lo)), (5, .int (nI u - Int32.ofInt 1))] [] h (fun v h' => v = none ∧ fx FD fN hb h' ∧ HH (nC W m) (Hk (nC W m) (sg W m) c g) h' ∧ SD W m s (dnf (fun v st => if szc W m c * v ≤ l then Ks (nC W m) (sg W m) (szc W m) (vst (rgt' W m s) s) n (c + 1) (ug g c v) (l - szc W m c * v) st else st) u st) h') := by
      intro u
      induction u with
      | zero =>
        intro _ f st h hq ge hx D
        refine xq_n 121 [] [] [] (xh_ui h 26 (nI (sg W m c)).toNatClampNeg (Int32.ofInt (-1))) [true] 60 hq rfl ⟨xlt_t (by rw [nI_toInt (by omega), show (nI 0 - Int32.ofInt 1).toInt = -1 from by decide]; omega), trivial⟩ (fun _ => ?_)
        rw [cs']
        refine xq_ret rfl rfl rfl ⟨rfl, fx_ui ge rfl, fun t ht => ⟨?_, (hh t ht).2⟩, ?_⟩
        · rw [gx_if]
          by_cases y : t = sg W m c
          · rw [if_pos y, y, Hk_s B hc, if_neg (Nat.lt_irrefl _)]; rfl
          · rw [if_neg y]; exact hx t ht y
        · obtain ⟨d1, d2, d3, ⟨t, t1, t2, t3⟩, ⟨u, u1, u2, u3⟩, d6, d7⟩ := D
          exact ⟨(gx_o (by decide)).trans d1, (gx_o (by decide)).trans d2, (gx_o (by decide)).trans d3, ⟨t, t1, t2, (gx_o (by decide)).trans t3⟩, ⟨u, u1, u2, (gx_o (by decide)).trans u3⟩, d6, d7⟩
      | succ w iw =>
        intro hw f st h hq ge hx D
        have X := CSt_f Xb ge
        rw [nI_sub1]
        have leave : ∀ st', st' = st → xq f xi_X5_place xmi_X5_place 114 [(0, .ref 21), (3, .int (nI (sg W m c)))] [] h (fun v h' => v = none ∧ fx FD fN hb h' ∧ HH (nC W m) (Hk (nC W m) (sg W m) c g) h' ∧ SD W m s st' h') := fun st' es => by
          subst es
          refine xq_n 121 [] [] [] (xh_ui h 26 (nI (sg W m c)).toNatClampNeg (Int32.ofInt (-1))) [] 60 hq rfl trivial (fun _ => ?_)
          rw [cs']
          refine xq_ret rfl rfl rfl ⟨rfl, fx_ui ge rfl, fun t ht => ⟨?_, (hh t ht).2⟩, ?_⟩
          · rw [gx_if]
            by_cases y : t = sg W m c
            · rw [if_pos y, y, Hk_s B hc, if_neg (Nat.lt_irrefl _)]; rfl
            · rw [if_neg y]; exact hx t ht y
          · obtain ⟨d1, d2, d3, ⟨t, t1, t2, t3⟩, ⟨u, u1, u2, u3⟩, d6, d7⟩ := D
            exact ⟨(gx_o (by decide)).trans d1, (gx_o (by decide)).trans d2, (gx_o (by decide)).trans d3, ⟨t, t1, t2, (gx_o (by decide)).trans t3⟩, ⟨u, u1, u2, (gx_o (by decide)).trans u3⟩, d6, d7⟩
        by_cases wl : w < lo
        · refine xq_n 114 [0, 3] [(0, .ref 21), (3, .int (nI (sg W m c)))] [] h [true] 60 hq rfl ⟨nlt_t (by omega) (by omega) wl, trivial⟩ (fun _ => ?_)
          exact leave _ (dnf_i (w + 1) (fun v hv => pr v st (fun _ => Or.inl (by omega))))
        · have y1 : xe_c .lt (nI w) (nI lo) = false := nlt_f (by omega) (by omega) (by omega)
          have y2 := oc_3 D.2.2.2.2.2.2
          rw [← D.2.2.1] at y2
          by_cases s0 : st.2 = 0
          · rw [decide_eq_false (fun y => y s0)] at y2
            show xq f _ _ _ _ _ _ (fun v h' => v = none ∧ fx FD fN hb h' ∧ HH (nC W m) (Hk (nC W m) (sg W m) c g) h' ∧ SD W m s (dnf (fun v st => if szc W m c * v ≤ l then Ks (nC W m) (sg W m) (szc W m) (vst (rgt' W m s) s) n (c + 1) (ug g c v) (l - szc W m c * v) st else st) w (if szc W m c * w ≤ l then Ks (nC W m) (sg W m) (szc W m) (vst (rgt' W m s) s) n (c + 1) (ug g c w) (l - szc W m c * w) st else st)) h')
            have x25 : xg 0 (xh_ui h 26 (sg W m c) (nI w)).2.1 25 (nI (sg W m c)).toNatClampNeg = nI (szc W m c) := by
              rw [cs']
              refine (gx_o (by decide)).trans ?_
              rw [X.2.2.2.2.2 _ sl, szc_s L hc]
            have hq1 : a_rq a_tb (xh_ui h 26 (sg W m c) (nI w)) := a_rq_ui hq
            have ge1 : fx FD fN hb (xh_ui h 26 (sg W m c) (nI w)) := fx_ui ge rfl
            have X1 := CSt_f Xb ge1
            have hx1 : ∀ t, t < nC W m → t ≠ sg W m c → xg 0 (xh_ui h 26 (sg W m c) (nI w)).2.1 26 t = hO (Hk (nC W m) (sg W m) c g t) := fun t ht y => (gx_k y).trans (hx t ht y)
            have hh1 : HH (nC W m) (Hk (nC W m) (sg W m) (c + 1) (ug g c w)) (xh_ui h 26 (sg W m c) (nI w)) := fun t ht => by
              by_cases y : t = sg W m c
              · rw [y, Hk_s B hc, if_pos (by omega), ug_s]
                exact ⟨gx_s, fun v ev => by cases ev; omega⟩
              · rw [Hk_n B ht hc y]
                exact ⟨hx1 t ht y, (hh t ht).2⟩
            have D1 : SD W m s st (xh_ui h 26 (sg W m c) (nI w)) := by
              obtain ⟨d1, d2, d3, ⟨t, t1, t2, t3⟩, ⟨u, u1, u2, u3⟩, d6, d7⟩ := D
              exact ⟨(gx_o (by decide)).trans d1, (gx_o (by decide)).trans d2, (gx_o (by decide)).trans d3, ⟨t, t1, t2, (gx_o (by decide)).trans t3⟩, ⟨u, u1, u2, (gx_o (by decide)).trans u3⟩, d6, d7⟩
            have p1 : pre (sg W m) (c + 1) (ug g c w) := by
              intro i j hi' hj' lij
              by_cases yi : i = c
              · subst yi
                by_cases yj : j = i
                · rw [yj] at lij; omega
                · rw [ug_s, ug_o yj]
                  have := hi2 (sg W m j) (g j) lij (sg_lt (by omega)) (by rw [Hk_s B (by omega), if_pos (by omega)])
                  omega
              · rw [ug_o yi]
                by_cases yj : j = c
                · subst yj
                  rw [ug_s]
                  have := lo3 (sg W m i) (g i) lij (by rw [Hk_s B (by omega), if_pos (by omega)])
                  omega
                · rw [ug_o yj]
                  exact p i j (by omega) (by omega) lij
            have zw : szc W m c * w ≤ 12 * 60 := Nat.mul_le_mul (by omega) (by omega)
            have xr : nI l - nI w * nI (szc W m c) = nI l - nI (szc W m c * w) := by rw [nI_ml, Nat.mul_comm]
            refine xq_n 68 [0, 1, 2, 3, 4, 5] [(0, .ref 21), (1, .int (nI c)), (2, .int (nI l)), (3, .int (nI (sg W m c))), (4, .int (nI lo)), (5, .int (nI w))] [] (xh_ui h 26 (nI (sg W m c)).toNatClampNeg (nI w)) [false, false] 60 hq rfl ⟨y1, y2, trivial⟩ (fun _ => ?_)
            rw [cs']
            refine xq_n 82 [0, 1, 2, 3, 4, 5, 6] [(0, .ref 21), (1, .int (nI c)), (2, .int (nI l)), (3, .int (nI (sg W m c))), (4, .int (nI lo)), (5, .int (nI w)), (6, .int (nI l - nI w * xg 0 (xh_ui h 26 (sg W m c) (nI w)).2.1 25 (nI (sg W m c)).toNatClampNeg))] [.ref 21] (xh_ui h 26 (sg W m c) (nI w)) [] 60 hq1 rfl trivial (fun _ => ?_)
            rw [x25, xr]
            refine xq_run hq1 rfl rfl (lea_q (by omega) X1.2.2.1 hh1 (zsv_e L m12 X1) hq1) ?_
            rintro v h2 ⟨rfl, lr, rfl, lr1, lr2⟩
            have next := fun (st' : Nat × Nat) (h' : xh_H) (hq' : a_rq a_tb h') (ge' : fx FD fN hb h') (hx' : ∀ t, t < nC W m → t ≠ sg W m c → xg 0 h'.2.1 26 t = hO (Hk (nC W m) (sg W m) c g t)) (D' : SD W m s st' h') => iw (by omega) f st' h' hq' ge' hx' D'
            by_cases zl : szc W m c * w ≤ l
            · rw [nI_sub zl, if_pos zl]
              -- a row that fits is in the bounds
              have bnd : ∀ g', (∀ i, i < c + 1 → g' i = ug g c w i) → sm (fun i => if c + 1 ≤ i then szc W m i * g' i else 0) (nC W m) = l - szc W m c * w → okw (nC W m) (sg W m) g' = true → fit (nC W m) (Hk (nC W m) (sg W m) (c + 1) (ug g c w)) (fun t => g' (tau (nC W m) (sg W m) t)) ∧ frw (nC W m) (Hk (nC W m) (sg W m) (c + 1) (ug g c w)) (zsv W m) (fun t => g' (tau (nC W m) (sg W m) t)) 0 = l - szc W m c * w := fun g' h1 h2 ok => ⟨fit_of B ok h1, (frw_k (z := szc W m) B).trans h2⟩
              by_cases q1 : l - szc W m c * w < lr
              · rw [Ks_p n (c + 1) _ _ (by omega) (fun g' h1 _ h2 => by
                  cases ok : okw (nC W m) (sg W m) g' with
                  | false => rfl
                  | true =>
                    exfalso
                    obtain ⟨F, e2⟩ := bnd g' h1 h2 ok
                    have := lr2 _ F
                    rw [← frb_0 (C := nC W m), e2] at this
                    omega)]
                refine xq_n 44 [0, 1, 2, 3, 4, 5] [(0, .ref 21), (1, .int (nI c)), (2, .int (nI l)), (3, .int (nI (sg W m c))), (4, .int (nI lo)), (5, .int (nI w + Int32.ofInt (-1)))] [] (xh_ui h 26 (sg W m c) (nI w)) [true] 60 hq1 rfl ⟨ngt_t (by omega) (by omega) q1, trivial⟩ (fun _ => ?_)
                rw [x_m1]
                exact next st _ hq1 ge1 hx1 D1
              · refine xq_n 93 [0, 1, 2, 3, 4, 5, 6] [(0, .ref 21), (1, .int (nI c)), (2, .int (nI l)), (3, .int (nI (sg W m c))), (4, .int (nI lo)), (5, .int (nI w)), (6, .int (nI (l - szc W m c * w)))] [.ref 21, .int (nI (l - szc W m c * w))] (xh_ui h 26 (sg W m c) (nI w)) [false] 60 hq1 rfl ⟨ngt_f (by omega) (by omega) (by omega), trivial⟩ (fun _ => ?_)
                refine xq_run hq1 rfl rfl (mos_q (by omega) X1.2.2.1 hh1 (zsv_e L m12 X1) hq1) ?_
                rintro v h2 ⟨rfl, mr, rfl, mr1, mr2⟩
                by_cases q2 : mr < l - szc W m c * w
                · rw [Ks_p n (c + 1) _ _ (by omega) (fun g' h1 _ h2 => by
                    cases ok : okw (nC W m) (sg W m) g' with
                    | false => rfl
                    | true =>
                      exfalso
                      obtain ⟨F, e2⟩ := bnd g' h1 h2 ok
                      have := mr2 _ F (by rw [e2]; omega)
                      rw [e2] at this
                      omega)]
                  refine xq_n 44 [0, 1, 2, 3, 4, 5] [(0, .ref 21), (1, .int (nI c)), (2, .int (nI l)), (3, .int (nI (sg W m c))), (4, .int (nI lo)), (5, .int (nI w + Int32.ofInt (-1)))] [] (xh_ui h 26 (sg W m c) (nI w)) [true] 60 hq1 rfl ⟨ngt_t (by omega) (by omega) q2, trivial⟩ (fun _ => ?_)
                  rw [x_m1]
                  exact next st _ hq1 ge1 hx1 D1
                · refine xq_n 105 [0, 1, 2, 3, 4, 5] [(0, .ref 21), (1, .int (nI c)), (2, .int (nI l)), (3, .int (nI (sg W m c))), (4, .int (nI lo)), (5, .int (nI w))] [.int (nI (l - szc W m c * w)), .int (nI c + Int32.ofInt 1), .ref 21] (xh_ui h 26 (sg W m c) (nI w)) [false] 60 hq1 rfl ⟨ngt_f (by omega) (by omega) (by omega), trivial⟩ (fun _ => ?_)
                  rw [nI_1']
                  refine xq_run hq1 rfl rfl (ih (c + 1) (by omega) f (ug g c w) (l - szc W m c * w) st _ hq1 ge1 hh1 p1 D1 s0 (by omega)) ?_
                  rintro v h3 ⟨rfl, ge3, hh3, D3⟩
                  have hq3 : a_rq a_tb h3 := ⟨by rw [ge3.1, ← ge1.1]; exact hq1.1, fun c s hs => by rw [ge3.1, ← ge1.1]; exact hq1.2.1 c s hs, fun c k ci t a b => by rw [ge3.2.1, ← ge1.2.1]; exact hq1.2.2 c k ci t a b⟩
                  refine xq_n 44 [0, 1, 2, 3, 4, 5] [(0, .ref 21), (1, .int (nI c)), (2, .int (nI l)), (3, .int (nI (sg W m c))), (4, .int (nI lo)), (5, .int (nI w + Int32.ofInt (-1)))] [] h3 [] 60 hq3 rfl trivial (fun _ => ?_)
                  rw [x_m1]
                  exact next _ h3 hq3 ge3 (fun t ht y => by rw [(hh3 t ht).1, Hk_n B ht hc y]) D3
            · rw [if_neg zl]
              refine xq_n 44 [0, 1, 2, 3, 4, 5] [(0, .ref 21), (1, .int (nI c)), (2, .int (nI l)), (3, .int (nI (sg W m c))), (4, .int (nI lo)), (5, .int (nI w + Int32.ofInt (-1)))] [] (xh_ui h 26 (sg W m c) (nI w)) [true] 60 hq1 rfl ⟨xgt_t (by
                have a1 := nI_toInt (n := l) (by omega)
                have a2 := nI_toInt (n := szc W m c * w) (by omega)
                rw [ar_sub (by rw [a1, a2]; omega) (by rw [a1, a2]; omega), a1, a2, nI_toInt (by omega)]
                omega), trivial⟩ (fun _ => ?_)
              rw [x_m1]
              exact next st _ hq1 ge1 hx1 D1
          · rw [decide_eq_true s0] at y2
            refine xq_n 114 [0, 3] [(0, .ref 21), (3, .int (nI (sg W m c)))] [] h [false, true] 60 hq rfl ⟨y1, y2, trivial⟩ (fun _ => ?_)
            exact leave _ (dnf_i (w + 1) (fun v _ => by
              split
              · exact Ks_s (fun g => vst_n s0) _ _ _ _
              · rfl))
    rw [Ks_n, dnf_hi (F := fun v st => if szc W m c * v ≤ l then Ks (nC W m) (sg W m) (szc W m) (vst (rgt' W m s) s) n (c + 1) (ug g c v) (l - szc W m c * v) st else st) (k := hi + 1) 100 (by omega) (fun v h1 _ => pr v st (fun _ => Or.inr (by omega))), ← nI_sub1 (k := hi)]
    exact loop (hi + 1) (Nat.le_refl _) f st h hq ge (fun t ht _ => (hh t ht).1) D
end
end XWL
end
section
section XWM
section
variable {W : Nat → Bool} {m : Nat}
theorem rmb_l {s a : Nat} (h : s.testBit a = true) : rmb s a < s := by
  have e : rmb s a &&& s = rmb s a := tb_sub (fun i hi => by
    rw [rmb_tb, Bool.and_eq_true] at hi
    exact hi.1)
  have l : rmb s a ≤ s := by
    have := Nat.and_le_right (n := rmb s a) (m := s)
    rw [e] at this
    exact this
  rcases Nat.lt_or_eq_of_le l with z | z
  · exact z
  · have y := rmb_tb (s := s) (a := a) (i := a)
    rw [z, h, decide_eq_true rfl] at y
    cases y
/-- who does it has one that can't do with less -/
theorem mi_ex {hd : Bool} : ∀ (n s : Nat), s < n → s < 2 ^ m → dz W m hd s = true → ∃ t, t < 2 ^ m ∧ mi W m hd t = true := by
  intro n
  induction n with
  | zero => intro s h; omega
  | succ n ih =>
    intro s h hs d
    cases c : aln (fun a => !(s.testBit a && dz W m hd (rmb s a))) m with
    | true => exact ⟨s, hs, by unfold mi; rw [d, c]; rfl⟩
    | false =>
      obtain ⟨a, a1, a2⟩ := aln_w c
      rw [Bool.not_eq_false', Bool.and_eq_true] at a2
      have := rmb_l a2.1
      exact ih (rmb s a) (by omega) (rmb_lt hs) a2.2
theorem cnt_0 {P : Nat → Bool} {n : Nat} (h : ∀ k, k < n → P k = false) : cnt P n = 0 := by rw [cnt_c n h]; exact cnt_z n
theorem cnt_p {P : Nat → Bool} {n k : Nat} (hk : k < n) (h : P k = true) : cnt P n ≠ 0 := by
  have := cnt_lt h hk
  omega
theorem lea_0 (M : Wm W m) : cnt (mi W m false) (2 ^ m) = 0 ↔ W (2 ^ m - 1) = false := by
  have p0 := Nat.two_pow_pos m
  constructor
  · intro h
    cases c : W (2 ^ m - 1) with
    | false => rfl
    | true =>
      obtain ⟨t, t1, t2⟩ := mi_ex (W := W) (m := m) (hd := false) (2 ^ m) (2 ^ m - 1) (by omega) (by omega) c
      exact absurd h (cnt_p t1 t2)
  · intro h
    refine cnt_0 (fun s hs => ?_)
    cases c : W s with
    | false => unfold mi dz; rw [c]; rfl
    | true =>
      have := M s (2 ^ m - 1) hs (by omega) (tb_sub (fun i hi => by rw [Nat.testBit_two_pow_sub_one, decide_eq_true (tb_lt hs hi)])) c
      rw [h] at this
      cases this
theorem hin_0 (M : Wm W m) : cnt (mi W m true) (2 ^ m) = 0 ↔ W 0 = true := by
  have p0 := Nat.two_pow_pos m
  constructor
  · intro h
    cases c : W 0 with
    | true => rfl
    | false =>
      have e : co m (2 ^ m - 1) = 0 := by unfold co; omega
      obtain ⟨t, t1, t2⟩ := mi_ex (W := W) (m := m) (hd := true) (2 ^ m) (2 ^ m - 1) (by omega) (by omega) (by unfold dz; rw [e, c]; rfl)
      exact absurd h (cnt_p t1 t2)
  · intro h
    refine cnt_0 (fun s hs => ?_)
    have := M 0 (co m s) p0 co_lt (Nat.zero_and _) h
    unfold mi dz
    rw [this]
    rfl
def FZ (c k : Nat) : Bool := (Nat.ble 22 c && Nat.ble c 27) || (Nat.beq c 21 && Nat.ble k 13)
theorem FZ_o {c k : Nat} (e : FZ c k = false) : ¬ (22 ≤ c ∧ c ≤ 27) ∧ ¬ (c = 21 ∧ k ≤ 13) := by
  unfold FZ at e
  rw [Bool.or_eq_false_iff] at e
  constructor
  · intro ⟨a, b⟩
    rw [Nat.ble_eq_true_of_le a, Nat.ble_eq_true_of_le b] at e
    cases e.1
  · intro ⟨a, b⟩
    rw [a, Nat.ble_eq_true_of_le b] at e
    cases e.2
theorem FD_Z {h h' : xh_H} (g : fx FD fN h h') : fx FZ fN h h' := fx_w g (fun c k e => by
  have := FZ_o e
  unfold FD FY
  rw [nbeq_f (show c ≠ 26 by omega), nbeq_f (show c ≠ 22 by omega), nbeq_f (show c ≠ 27 by omega)]
  by_cases z : c = 21
  · rw [nbeq_f (show k ≠ 1 by omega), nbeq_f (show k ≠ 10 by omega), nbeq_f (show k ≠ 11 by omega), nbeq_f (show k ≠ 12 by omega), nbeq_f (show k ≠ 13 by omega)]
    cases Nat.beq c 21 <;> rfl
  · rw [nbeq_f z]; rfl) (fun _ _ e => e)
theorem FC_Z {h h' : xh_H} (g : fx FC fN h h') : fx FZ fN h h' := fx_w g (fun c k e => by
  have := FZ_o e
  unfold FC
  rw [nbeq_f (show c ≠ 23 by omega), nbeq_f (show c ≠ 24 by omega), nbeq_f (show c ≠ 25 by omega), nbeq_f (show c ≠ 26 by omega)]
  by_cases z : c = 21
  · rw [nbeq_f (show k ≠ 8 by omega)]
    cases Nat.beq c 21 <;> rfl
  · rw [nbeq_f z]; rfl) (fun _ _ e => e)
theorem CSt_9 {h : xh_H} {k : Nat} {x : Int32} (hk : k ≠ 8) (X : CSt W m h) : CSt W m (xh_ui h 21 k x) := by
  obtain ⟨P, e7, e8, e23, e24, e25⟩ := X
  exact ⟨PD_c (fun c k z => gx_o (by omega)) P, (gx_o (by decide)).trans e7, (gx_k (fun e => hk e.symm)).trans e8, fun a ha => (gx_o (by decide)).trans (e23 a ha), fun a ha => (gx_o (by decide)).trans (e24 a ha), fun a ha => (gx_o (by decide)).trans (e25 a ha)⟩
theorem oc_w {x : Nat} (h : x ≠ 0) : oc x = wcd x := by
  match x with
  | 0 => exact absurd rfl h
  | 1 => rfl
  | s + 2 => rfl
set_option maxRecDepth 100000 in
set_option maxHeartbeats 4000000 in
/-- Scales.search, its end -/
theorem sch_e {f s : Nat} {st : Nat × Nat} {hb h : xh_H} (hq : a_rq a_tb h) (ge : fx FZ fN hb h) (s61 : s ≤ 61) (D : SD W m s st h) (hs : st.2 = 0 → s = 61) : xq f xi_X5_search xmi_X5_search 78 [(0, .ref 21)] [] h (fun v h' => v = some (.int (wcd st.2)) ∧ fx FZ fN hb h') := by
  obtain ⟨d1, d2, d3, -, -, -, d7⟩ := D
  have y := oc_3 d7
  rw [← d3] at y
  by_cases s0 : st.2 = 0
  · rw [decide_eq_false (fun z => z s0)] at y
    have e := hs s0
    refine xq_n 135 [] [] [.int (Int32.ofInt (-1))] h [true, false] 60 hq rfl ⟨(show xe_c .gt (xg 0 h.2.1 21 9) 60 = true by rw [d1, e]; rfl), y, trivial⟩ (fun _ => ?_)
    exact xq_ret rfl rfl rfl ⟨by rw [s0]; rfl, ge⟩
  · rw [decide_eq_true s0] at y
    by_cases z : s ≤ 60
    · refine xq_n 135 [] [] [.int (xg 0 h.2.1 21 11)] h [false, true, true] 60 hq rfl ⟨(show xe_c .gt (xg 0 h.2.1 21 9) 60 = false by rw [d1]; exact ngt_f (b := 60) (by omega) (by decide) z), y, y, trivial⟩ (fun _ => ?_)
      exact xq_ret rfl rfl rfl ⟨by rw [d3, oc_w s0], ge⟩
    · refine xq_n 135 [] [] [.int (xg 0 h.2.1 21 11)] h [true, true] 60 hq rfl ⟨(show xe_c .gt (xg 0 h.2.1 21 9) 60 = true by rw [d1]; exact ngt_t (b := 60) (by omega) (by decide) (by omega)), y, trivial⟩ (fun _ => ?_)
      exact xq_ret rfl rfl rfl ⟨by rw [d3, oc_w s0], ge⟩
set_option maxRecDepth 100000 in
set_option maxHeartbeats 4000000 in
theorem sch_l {hb : xh_H} (m12 : m ≤ 12) (M : Wm W m) (L : Ln W m) : ∀ (n f s : Nat) (h : xh_H), s + n = 61 → a_rq a_tb h → fx FZ fN hb h → CSt W m h → HH (nC W m) (Hk (nC W m) (sg W m) 0 (fun _ => 0)) h → SD W m s (Ss W m s) h → (Ss W m s).2 = 0 → xq f xi_X5_search xmi_X5_search 78 [(0, .ref 21)] [] h (fun v h' => v = some (.int (wcd (Ss W m 61).2)) ∧ fx FZ fN hb h') := by
  intro n
  induction n with
  | zero =>
    intro f s h hn hq ge X hh D s0
    have e : s = 61 := by omega
    subst e
    exact sch_e hq ge (Nat.le_refl _) D (fun _ => rfl)
  | succ n ih =>
    intro f s h hn hq ge X hh D s0
    have y := oc_3 D.2.2.2.2.2.2
    rw [← D.2.2.1, decide_eq_false (fun z => z s0)] at y
    refine xq_n 102 [0] [(0, .ref 21)] [.int (xg 0 h.2.1 21 9), .int (Int32.ofInt 0), .ref 21] h [false, false] 60 hq rfl ⟨(show xe_c .gt (xg 0 h.2.1 21 9) 60 = false by rw [D.1]; exact ngt_f (b := 60) (by omega) (by decide) (by omega)), y, trivial⟩ (fun _ => ?_)
    rw [D.1]
    refine xq_run hq rfl rfl (plc_q m12 M L X (show s ≤ 60 by omega) (nC W m) 0 (by omega) f (fun _ => 0) s (Ss W m s) h hq fx_0 hh (fun i j hi => absurd hi (Nat.not_lt_zero _)) D s0 (by omega)) ?_
    rintro v h1 ⟨rfl, g1, hh1, D1⟩
    have hq1 := fx_q g1 hq
    have X1 := CSt_f X g1
    obtain ⟨d1, d2, d3, ⟨t, t1, t2, t3⟩, ⟨u, u1, u2, u3⟩, d6, d7⟩ := D1
    refine xq_n 78 [0] [(0, .ref 21)] [] (xh_ui h1 21 9 (xg 0 h1.2.1 21 9 + Int32.ofInt 1)) [] 60 hq1 rfl trivial (fun _ => ?_)
    rw [d1, nI_1']
    have hq2 : a_rq a_tb (xh_ui h1 21 9 (nI (s + 1))) := a_rq_ui hq1
    have ge2 : fx FZ fN hb (xh_ui h1 21 9 (nI (s + 1))) := fx_ui (fx_t ge (FD_Z g1)) rfl
    have D2 : SD W m (s + 1) (Ss W m (s + 1)) (xh_ui h1 21 9 (nI (s + 1))) := ⟨gx_s, (gx_k (by decide)).trans d2, (gx_k (by decide)).trans d3, ⟨t, t1, t2, (gx_k (by decide)).trans t3⟩, ⟨u, u1, u2, (gx_k (by decide)).trans u3⟩, d6, d7⟩
    by_cases z : (Ss W m (s + 1)).2 = 0
    · exact ih f (s + 1) _ (by omega) hq2 ge2 (CSt_9 (by decide) X1) (fun t ht => ⟨(gx_o (by decide)).trans (hh1 t ht).1, (hh1 t ht).2⟩) D2 z
    · have e61 := Ss_s (W := W) (m := m) (s := s + 1) z (60 - s)
      rw [show s + 1 + (60 - s) = 61 by omega] at e61
      rw [e61]
      exact sch_e hq2 ge2 (by omega) D2 (fun y => absurd y z)
set_option maxRecDepth 100000 in
set_option maxHeartbeats 4000000 in
/-- Scales.search -/
theorem sch_q {f : Nat} {h : xh_H} (m12 : m ≤ 12) (M : Wm W m) (P : PD W m h) (e7 : xg 0 h.2.1 14 7 = nI m) (hq : a_rq a_tb h) : xq f xi_X5_search xmi_X5_search 0 [(0, .ref 21)] [] h (fun v h' => v = some (.int (wgV W m)) ∧ fx FZ fN h h') := by
  have p12 : 2 ^ m ≤ 4096 := show 2 ^ m ≤ 2 ^ 12 from Nat.pow_le_pow_right (by decide) m12
  have l9 := mi_924 (hd := false) m12 M
  have h9 := mi_924 (hd := true) m12 M
  have x9 : xg 0 h.2.1 14 9 = nI (cnt (mi W m false) (2 ^ m)) := by rw [P.2.2.1.1, lcn_e m12 M]
  have x10 : xg 0 h.2.1 14 10 = nI (cnt (mi W m true) (2 ^ m)) := by rw [P.2.2.2.1.1, lcn_e m12 M]
  have nz : ∀ k, k ≤ 924 → xe_c .eq (nI k) 0 = decide (k = 0) := fun k hk => by
    by_cases z : k = 0
    · rw [decide_eq_true z, z]; rfl
    · rw [decide_eq_false z, xc_eq, show xe_c .ne (nI k) 0 = true from nne_t (b := 0) (by omega) (by decide) z]; rfl
  have c9 := nz _ l9
  have c10 := nz _ h9
  rw [← x9] at c9
  rw [← x10] at c10
  unfold wgV
  by_cases z9 : cnt (mi W m false) (2 ^ m) = 0
  · rw [decide_eq_true z9] at c9
    rw [(lea_0 M).mp z9, Bool.and_false, Bool.and_false]
    refine xq_n 31 [] [] [.int (Int32.ofInt (-1))] h [true] 60 hq rfl ⟨c9, trivial⟩ (fun _ => ?_)
    exact xq_ret rfl rfl rfl ⟨rfl, fx_0⟩
  · rw [decide_eq_false z9] at c9
    have w1 : W (2 ^ m - 1) = true := by
      cases c : W (2 ^ m - 1) with
      | true => rfl
      | false => exact absurd ((lea_0 M).mpr c) z9
    by_cases z10 : cnt (mi W m true) (2 ^ m) = 0
    · rw [decide_eq_true z10] at c10
      rw [(hin_0 M).mp z10, Bool.not_true, Bool.false_and, Bool.and_false]
      refine xq_n 31 [] [] [.int (Int32.ofInt (-1))] h [false, true] 60 hq rfl ⟨c9, c10, trivial⟩ (fun _ => ?_)
      exact xq_ret rfl rfl rfl ⟨rfl, fx_0⟩
    · rw [decide_eq_false z10] at c10
      have w0 : W 0 = false := by
        cases c : W 0 with
        | false => rfl
        | true => exact absurd ((hin_0 M).mpr c) z10
      rw [w0, w1]
      refine xq_n 24 [0] [(0, .ref 21)] [.ref 14] h [false, false] 60 hq rfl ⟨c9, c10, trivial⟩ (fun _ => ?_)
      refine xq_run hq rfl rfl (iln_q m12 e7 P hq) ?_
      rintro v h1 ⟨rfl, rfl⟩
      cases c : lnd W m with
      | false =>
        refine xq_n 31 [] [] [.int (Int32.ofInt (-1))] h [false] 60 hq rfl ⟨rfl, trivial⟩ (fun _ => ?_)
        exact xq_ret rfl rfl rfl ⟨rfl, fx_0⟩
      | true =>
        have L := Ln_of c
        refine xq_n 33 [0] [(0, .ref 21)] [.ref 21] h [true] 60 hq rfl ⟨rfl, trivial⟩ (fun _ => ?_)
        refine xq_run hq rfl rfl (fcl_q m12 P e7 hq) ?_
        rintro v h1 ⟨rfl, g1, X1, e26⟩
        have hq1 := fx_q g1 hq
        obtain ⟨ra, rb⟩ := rw_all m12 M X1.1.2.2.1.2
        obtain ⟨ra', rb'⟩ := rw_all m12 M X1.1.2.2.2.1.2
        obtain ⟨t, t1, t2, -, t4⟩ := rb 0 (by omega)
        obtain ⟨u, u1, u2, -, u4⟩ := rb' 0 (by omega)
        have y15 : xg 0 h1.2.1 15 (Int32.ofInt 0).toNatClampNeg = nI t := t4
        refine xq_n 49 [0] [(0, .ref 21)] [] (xh_ui h1 21 12 (xg 0 h1.2.1 15 (Int32.ofInt 0).toNatClampNeg)) [] 60 hq1 rfl trivial (fun _ => ?_)
        rw [y15]
        have hq2 : a_rq a_tb (xh_ui h1 21 12 (nI t)) := a_rq_ui hq1
        have y16 : xg 0 (xh_ui h1 21 12 (nI t)).2.1 16 (Int32.ofInt 0).toNatClampNeg = nI u := (gx_o (by decide)).trans u4
        refine xq_n 62 [0] [(0, .ref 21)] [] (xh_ui (xh_ui h1 21 12 (nI t)) 21 13 (xg 0 (xh_ui h1 21 12 (nI t)).2.1 16 (Int32.ofInt 0).toNatClampNeg)) [] 60 hq2 rfl trivial (fun _ => ?_)
        rw [y16]
        have hq3 : a_rq a_tb (xh_ui (xh_ui h1 21 12 (nI t)) 21 13 (nI u)) := a_rq_ui hq2
        refine xq_n 78 [0] [(0, .ref 21)] [] (xh_ui (xh_ui (xh_ui (xh_ui (xh_ui h1 21 12 (nI t)) 21 13 (nI u)) 21 10 (Int32.ofInt 0)) 21 11 (-3)) 21 9 (Int32.ofInt 0)) [] 60 hq3 rfl trivial (fun _ => ?_)
        refine sch_l m12 M L 61 f 0 _ (by omega) (a_rq_ui (a_rq_ui (a_rq_ui hq3))) (fx_ui (fx_ui (fx_ui (fx_ui (fx_ui (FC_Z g1) rfl) rfl) rfl) rfl) rfl) (CSt_9 (by decide) (CSt_9 (by decide) (CSt_9 (by decide) (CSt_9 (by decide) (CSt_9 (by decide) X1))))) (fun x hx => ⟨?_, fun v ev => ?_⟩) ⟨gx_s, (gx_k (by decide)).trans ((gx_k (by decide)).trans gx_s), (gx_k (by decide)).trans gx_s, ⟨t, t1, t2, (gx_k (by decide)).trans ((gx_k (by decide)).trans ((gx_k (by decide)).trans ((gx_k (by decide)).trans gx_s)))⟩, ⟨u, u1, u2, (gx_k (by decide)).trans ((gx_k (by decide)).trans ((gx_k (by decide)).trans gx_s))⟩, fun _ => (by show (0 : Nat) ≤ 5000; decide), by show (0 : Nat) ≤ 62; decide⟩ rfl
        · rw [gx_o (by decide), gx_o (by decide), gx_o (by decide), gx_o (by decide), gx_o (by decide), e26 x hx]
          unfold Hk
          rw [if_neg (Nat.not_lt_zero _)]
          rfl
        · unfold Hk at ev
          rw [if_neg (Nat.not_lt_zero _)] at ev
          cases ev
end
end XWM
end
section
section XWN
/-- no word of what is no set -/
def Wn (W : Nat → Bool) (m s : Nat) : Bool := decide (s < 2 ^ m) && W s
def wgN (W : Nat → Bool) (m : Nat) : Int32 := wgV (Wn W m) m
theorem Wn_e {W : Nat → Bool} {m s : Nat} (h : s < 2 ^ m) : W s = Wn W m s := by unfold Wn; rw [decide_eq_true h]; rfl
theorem Wn_c {W W' : Nat → Bool} {m : Nat} (e : ∀ s, s < 2 ^ m → W s = W' s) : Wn W m = Wn W' m := funext (fun s => by
  unfold Wn
  by_cases z : s < 2 ^ m
  · rw [e s z]
  · rw [decide_eq_false z]; rfl)
theorem wgN_c {W W' : Nat → Bool} {m : Nat} (e : ∀ s, s < 2 ^ m → W s = W' s) : wgN W m = wgN W' m := by unfold wgN; rw [Wn_c e]
theorem Wm_n {W : Nat → Bool} {m : Nat} (M : Wm W m) : Wm (Wn W m) m := fun s t hs ht h w => by
  rw [← Wn_e ht]
  rw [← Wn_e hs] at w
  exact M s t hs ht h w
theorem RA_n {W : Nat → Bool} {m : Nat} {h : xh_H} (A : RA W m h) : RA (Wn W m) m h := ⟨A.1, A.2.1, fun s hs => by rw [← Wn_e hs]; exact A.2.2 s hs⟩
/-- Scales fits the statute and the members that it has weighed -/
def WI (h : xh_H) : Prop := (∀ q, xg none h.2.2.2 21 14 = some q → q ≠ 11 → ∃ r, xg none h.2.2.2 q 1 = some r ∧ r ≠ 12) ∧ ∀ q m, xg none h.2.2.2 21 14 = some q → xg 0 h.2.1 21 15 = nI m → 1 ≤ m → m ≤ 12 → xg 0 h.2.1 21 11 = wgN (lw h q m) m
theorem WI_s {h h' : xh_H} (i : a_inv a_tb h) (l : 72 ≤ h.1.length) (F3 : ∀ c k, h.1[c]? = some (4, 64) → c ≠ 12 → xg 0 h'.2.2.1 c k = xg 0 h.2.2.1 c k) (F5 : ∀ c k, h.1[c]? = some (0, 7) → xg none h'.2.2.2 c k = xg none h.2.2.2 c k) (e14 : xg none h'.2.2.2 21 14 = xg none h.2.2.2 21 14) (e11 : xg 0 h'.2.1 21 11 = xg 0 h.2.1 21 11) (e15 : xg 0 h'.2.1 21 15 = xg 0 h.2.1 21 15) (P : WI h) : WI h' := by
  have hq := a_rq_of i.1 l
  obtain ⟨q', e', rq⟩ : a_e h 21 14 (2, 11, 0) := ((i.1 21 (0, 5) (hq.2.1 21 (0, 5) rfl)).2 14 (by decide))
  obtain ⟨s1, r, s2, s3⟩ := law_sh i.1 rq
  refine ⟨fun q h1 z => ?_, fun q m h1 h2 m1 m12 => ?_⟩
  · rw [e14, e'] at h1
    cases h1
    rw [F5 _ 1 s1]
    exact P.1 _ e' z
  rw [e14, e'] at h1
  cases h1
  rw [e15] at h2
  rw [e11, P.2 q' m e' h2 m1 m12]
  refine wgN_c (fun s hs => ?_)
  unfold lw
  by_cases z : q' = 11
  · rw [if_pos z, if_pos z]
  · obtain ⟨r', y1, y2⟩ := P.1 q' e' z
    rw [s2] at y1
    cases y1
    rw [if_neg z, if_neg z, F5 q' 1 s1, s2]
    exact (hv_ee (fun k => F3 r k s3 y2)).symm
theorem lw_W {W : Nat → Bool} {m q r : Nat} {h : xh_H} (A : LA W m q r h) (hu : q = 11 → ∀ s, s < 2 ^ m → W s = decide (s = 2 ^ m - 1)) : ∀ s, s < 2 ^ m → lw h q m s = W s := fun s hs => by
  unfold lw
  by_cases z : q = 11
  · rw [if_pos z]; exact (hu z s hs).symm
  · rw [if_neg z, A.2.2.1]
    exact A.2.2.2.2.2.2 s hs
set_option maxRecDepth 100000 in
set_option maxHeartbeats 4000000 in
/-- Scales.look -/
theorem loo_q {f : Nat} {W : Nat → Bool} {m q r : Nat} {h : xh_H} (i : a_inv a_tb h) (l : 72 ≤ h.1.length) (m1 : 1 ≤ m) (m12 : m ≤ 12) (M : Wm W m) (A : LA W m q r h) (P : PD W m h) (r12 : q ≠ 11 → r ≠ 12) (hu : q = 11 → ∀ s, s < 2 ^ m → W s = decide (s = 2 ^ m - 1)) (wi : WI h) : xq f xi_X5_look xmi_X5_look 0 [(0, .ref 21)] [] h (fun v h' => v = some (.int (wgN W m)) ∧ WI h') := by
  have hq := a_rq_of i.1 l
  have hs21 : h.1[21]? = some (0, 5) := hq.2.1 21 (0, 5) rfl
  obtain ⟨w, ew, rw'⟩ : a_e h 21 14 (2, 11, 0) := ((i.1 21 (0, 5) hs21).2 14 (by decide))
  obtain ⟨q', eq', rq⟩ : a_e h 14 6 (2, 11, 0) := ((i.1 14 (0, 2) (hq.2.1 14 (0, 2) rfl)).2 6 (by decide))
  rw [A.1] at eq'
  cases eq'
  have b := a_flx (c := 21) (k := 15) (lo := 0) (hi := 12) i.1 l rfl rfl (by decide)
  obtain ⟨n, en, n12, -⟩ := a_nk (x := xg 0 h.2.1 21 15) (m := 12) b.1 b.2
  have ql : q < h.1.length := rq.1
  have q21 : q ≠ 21 := fun e => by have := A.2.1; rw [e, hs21] at this; cases this
  refine xq_n 12 [0] [(0, .ref 21)] [.int (xg 0 h.2.1 21 15), va_rf (xg none h.2.2.2 21 14), .ref 14] h [] 60 hq rfl trivial (fun _ => ?_)
  rw [ew, en]
  refine xq_run hq rfl rfl (xq_of (d := 0) ⟨_, rfl⟩ (io_run (d := 0) i.1 l A.1 ql rw'.1 n12)) ?_
  rintro v h2 ⟨rfl, p, rfl, hp⟩
  cases p with
  | true =>
    obtain ⟨rfl, e⟩ := hp.mp rfl
    have en' : n = m := by
      rw [A.2.2.2.2.1] at e
      exact ((nI_eq (by omega) (by omega)).mp e).symm
    subst en'
    refine xq_n 52 [] [] [.int (xg 0 h.2.1 21 11)] h [true] 60 hq rfl ⟨rfl, trivial⟩ (fun _ => ?_)
    refine xq_ret rfl rfl rfl ⟨?_, wi⟩
    rw [wi.2 q n ew en m1 m12, wgN_c (lw_W A hu)]
  | false =>
    refine xq_n 26 [0] [(0, .ref 21)] [va_rf (xg none h.2.2.2 14 6), .ref 21] h [false] 60 hq rfl ⟨rfl, trivial⟩ (fun _ => ?_)
    rw [A.1]
    refine xq_st rfl rfl (fun _ _ => xe_pr hs21 rfl) ?_
    have i2 : a_inv a_tb (xh_ur h 21 14 (some q)) := a_inv_ur (e := (2, 11, 0)) i hs21 (by rw [a_tg_lt (by decide)]; rfl) (Or.inl rfl) rq
    have hq2 : a_rq a_tb (xh_ur h 21 14 (some q)) := a_rq_of i2.1 l
    have e7 : xg 0 (xh_ur h 21 14 (some q)).2.1 14 7 = nI m := A.2.2.2.2.1
    refine xq_n 42 [0] [(0, .ref 21)] [.ref 21, .ref 21] (xh_ui (xh_ur h 21 14 (some q)) 21 15 (xg 0 (xh_ur h 21 14 (some q)).2.1 14 7)) [] 60 hq2 rfl trivial (fun _ => ?_)
    rw [e7]
    have hq3 : a_rq a_tb (xh_ui (xh_ur h 21 14 (some q)) 21 15 (nI m)) := a_rq_ui hq2
    have P3 : PD (Wn W m) m (xh_ui (xh_ur h 21 14 (some q)) 21 15 (nI m)) := PD_W (fun s hs => Wn_e hs) (PD_c (h := h) (fun c k z => gx_o (by omega)) P)
    refine xq_run hq3 rfl rfl (sch_q m12 (Wm_n M) P3 ((gx_o (by decide)).trans e7) hq3) ?_
    rintro v h4 ⟨rfl, g4⟩
    have hq4 := fx_q g4 hq3
    refine xq_n 52 [] [] [.int (xg 0 (xh_ui h4 21 11 (wgV (Wn W m) m)).2.1 21 11)] (xh_ui h4 21 11 (wgV (Wn W m) m)) [] 60 hq4 rfl trivial (fun _ => ?_)
    refine xq_ret rfl rfl rfl ⟨by rw [gx_s]; rfl, ?_⟩
    have e14 : xg none (xh_ui h4 21 11 (wgV (Wn W m) m)).2.2.2 21 14 = some q := by
      show xg none h4.2.2.2 21 14 = some q
      rw [g4.2.1]
      exact xh_up_s
    have eq1 : xg none (xh_ui h4 21 11 (wgV (Wn W m) m)).2.2.2 q 1 = some r := by
      show xg none h4.2.2.2 q 1 = some r
      rw [g4.2.1]
      exact (congrFun (xh_up_o q21) 1).trans A.2.2.1
    refine ⟨fun q' h1 z => ?_, fun q' m' h1 h2 _ m12' => ?_⟩
    · rw [e14] at h1
      cases h1
      exact ⟨r, eq1, r12 z⟩
    · rw [e14] at h1
      cases h1
      have e15 : xg 0 (xh_ui h4 21 11 (wgV (Wn W m) m)).2.1 21 15 = nI m := (gx_k (by decide)).trans ((fx_i g4 rfl).trans gx_s)
      rw [e15] at h2
      have e := (nI_eq (by omega) (by omega)).mp h2
      subst e
      rw [gx_s]
      show wgN W m = _
      refine wgN_c (fun s hs => ?_)
      unfold lw
      by_cases z : q = 11
      · rw [if_pos z]; exact hu z s hs
      · rw [if_neg z, eq1, ← A.2.2.2.2.2.2 s hs]
        exact (hv_ee (fun k => g4.2.2.2 r k rfl)).symm
section
variable {mem sc : Nat} {d : Int32} {h : xh_H}
set_option maxRecDepth 100000 in
set_option maxHeartbeats 4000000 in
theorem pw9_q {f : Nat} (hi : a_inv a_tb h) (hn : 72 ≤ h.1.length) (e9 : xg 0 h.2.1 0 9 = nI mem) (m1 : 1 ≤ mem) (m12 : mem ≤ 12) (e8 : xg 0 h.2.1 0 8 = nI sc) (sc8 : sc ≤ 8) (e10 : xg 0 h.2.1 0 10 = d) (si : SI h) (pi : PI h) : xq f xi_X9_powersToday xmi_X9_powersToday 0 [(0, .ref 0)] [] h (fun v h' => v = some (.ref 14) ∧ Yf h h' ∧ PI h' ∧ ∃ q r, LA (cvB (fun k => xg 0 h.2.1 51 k) (fun k => xg 0 h.2.1 44 k) mem sc d) mem q r h' ∧ PD (cvB (fun k => xg 0 h.2.1 51 k) (fun k => xg 0 h.2.1 44 k) mem sc d) mem h' ∧ (q ≠ 11 → r ≠ 12) ∧ (q = 11 → ∀ s, s < 2 ^ mem → cvB (fun k => xg 0 h.2.1 51 k) (fun k => xg 0 h.2.1 44 k) mem sc d s = decide (s = 2 ^ mem - 1))) := by
  have hq := a_rq_of hi.1 hn
  have p12 : 2 ^ mem ≤ 4096 := show 2 ^ mem ≤ 2 ^ 12 from Nat.pow_le_pow_right (by decide) m12
  obtain ⟨⟨u1, u2, u3⟩, si⟩ := si
  obtain ⟨SS, un⟩ := si mem sc e9 m12 e8 sc8
  refine xq_n 9 [0] [(0, .ref 0)] [.int (xg 0 h.2.1 0 10), .ref 0, .ref 14] h [] 60 hq rfl trivial (fun _ => ?_)
  rw [e10]
  refine xq_run hq rfl rfl (if9_q hi e8 sc8 u1 u2 SS hq) ?_
  rintro v h1 ⟨rfl, Q, rfl, fd⟩
  refine xq_n 16 [0] [(0, .ref 0)] [.int (xg 0 h.2.1 0 9), .ref Q, .ref 14] h [] 60 hq rfl trivial (fun _ => ?_)
  rw [e9]
  obtain ⟨l, hl, l2⟩ : a_e h 14 6 (2, 11, 0) := ((hi.1 14 (0, 2) (hq.2.1 14 (0, 2) rfl)).2 6 (by decide))
  obtain ⟨r, g1, g2, -⟩ := hv_cv hi m12 SS un u3 hq (s := 0) (Nat.two_pow_pos mem) fd
  have hW : ∀ s, s < 2 ^ mem → hv h r s = cvB (fun k => xg 0 h.2.1 51 k) (fun k => xg 0 h.2.1 44 k) mem sc d s := fun s hs => by
    obtain ⟨r', g1', -, g3⟩ := hv_cv hi m12 SS un u3 hq hs fd
    rw [g1] at g1'
    cases g1'
    exact g3
  have hu : Q = 11 → ∀ s, s < 2 ^ mem → cvB (fun k => xg 0 h.2.1 51 k) (fun k => xg 0 h.2.1 44 k) mem sc d s = decide (s = 2 ^ mem - 1) := fun z s hs => by
    rw [z, u3] at g1
    cases g1
    rw [← hW s hs]
    exact un s (by omega)
  have r12 : Q ≠ 11 → r ≠ 12 := fun z => by
    rcases fd with ⟨f0, ⟨f1, f2, f3⟩ | ⟨j, f1, f2, f3⟩⟩
    · exact absurd f2 z
    · obtain ⟨q, q72, qe, ql, q1, q2, -⟩ := SS j (iF_lt f1)
      rw [q1] at f2
      obtain rfl : q = Q := Option.some.inj f2
      rw [g1] at q2
      have := Option.some.inj q2
      omega
  have rQ : a_r h.1.length 11 Q := by
    rcases fd with ⟨f0, ⟨f1, f2, f3⟩ | ⟨j, f1, f2, f3⟩⟩
    · rw [f2]; exact ⟨by omega, rfl⟩
    · obtain ⟨q, q72, qe, ql, q1, -⟩ := SS j (iF_lt f1)
      rw [q1] at f2
      obtain rfl : q = Q := Option.some.inj f2
      refine ⟨by omega, ?_⟩
      unfold a_tg
      rw [show Nat.blt q 72 = false by cases y : Nat.blt q 72 with | false => rfl | true => (have := Nat.le_of_ble_eq_true y; omega), qe]
      rfl
  refine xq_run hq rfl rfl (stu_q (r := r) hi hn hl rQ fd.1 g1 g2 m1 m12 hW (fun e e7 => ?_)) ?_
  · subst e
    have J := hi.2.1
    rw [e7, nI_toInt (by omega)] at J
    refine ⟨Int32.toInt_inj.mp ?_, PD_W (fun s hs => ?_) (pi.2 l mem hl e7 m1 m12)⟩
    · have := Nat.two_pow_pos mem
      rw [J, nI_toInt (by omega)]
      show ((2 ^ (mem : Int).toNat : Nat) : Int) - 1 = _
      rw [Int.toNat_natCast]
      omega
    · unfold lw
      by_cases z : l = 11
      · rw [if_pos z]; exact (hu z s hs).symm
      · rw [if_neg z, g1]; exact hW s hs
  · rintro v h2 ⟨rfl, A, P, Y⟩
    have hq2 : a_rq a_tb h2 := Yf_q hi hn Y
    refine xq_n 23 [] [] [.ref 14] h2 [] 60 hq2 rfl trivial (fun _ => ?_)
    exact xq_ret rfl rfl rfl ⟨rfl, Y, PI_of A P m1 m12 r12 hu, Q, r, A, P, r12, hu⟩
theorem WI_Y {h h' : xh_H} (i : a_inv a_tb h) (l : 72 ≤ h.1.length) (Y : Yf h h') (P : WI h) : WI h' := WI_s i l (fun c k _ _ => Y.2.2.1 c k) (fun c k e => Y.2.2.2 c k (Or.inl (fun z => by rw [z, (a_rq_of i.1 l).2.1 14 (0, 2) rfl] at e; cases e))) (Y.2.2.2 21 14 (Or.inl (by decide))) (Y.2.1 21 11 rfl) (Y.2.1 21 15 rfl) P
set_option maxRecDepth 100000 in
set_option maxHeartbeats 4000000 in
/-- X9.weigh -/
theorem we9_q {f : Nat} (hi : a_inv a_tb h) (hn : 72 ≤ h.1.length) (e9 : xg 0 h.2.1 0 9 = nI mem) (m1 : 1 ≤ mem) (m12 : mem ≤ 12) (e8 : xg 0 h.2.1 0 8 = nI sc) (sc8 : sc ≤ 8) (e10 : xg 0 h.2.1 0 10 = d) (si : SI h) (pi : PI h) (wi : WI h) (M : Wm (cvB (fun k => xg 0 h.2.1 51 k) (fun k => xg 0 h.2.1 44 k) mem sc d) mem) : xq f xi_X9_weigh xmi_X9_weigh 0 [(0, .ref 0)] [] h (fun v h' => v = some (.int (wgN (cvB (fun k => xg 0 h.2.1 51 k) (fun k => xg 0 h.2.1 44 k) mem sc d) mem)) ∧ WI h') := by
  have hq := a_rq_of hi.1 hn
  refine xq_n 1 [0] [(0, .ref 0)] [.ref 0] h [] 60 hq rfl trivial (fun _ => ?_)
  refine xq_run hq rfl rfl (xq_and (pti_q hi hn e9 m1 m12 e8 sc8 e10 si pi) (pw9_q hi hn e9 m1 m12 e8 sc8 e10 si pi)) ?_
  rintro v h1 ⟨⟨rfl, i1, l1, P1, -⟩, -, Y, -, q, r, A, P, r12, hu⟩
  have hq1 := a_rq_of i1.1 l1
  refine xq_n 9 [] [] [.ref 21] h1 [] 60 hq1 rfl trivial (fun _ => ?_)
  refine xq_run hq1 rfl rfl (loo_q i1 l1 m1 m12 M A P r12 hu (WI_Y hi hn Y wi)) ?_
  rintro v h2 ⟨rfl, w2⟩
  exact xq_ret rfl rfl rfl ⟨rfl, w2⟩
end
theorem we10n_q {f mem sc : Nat} {FR RW : Nat → Int32} {d : Int32} {h : xh_H} (m12 : mem ≤ 12) (m1 : 1 ≤ mem) (e4 : xg 0 h.2.1 39 4 = nI mem) (e33 : xg 0 h.2.1 39 33 = nI sc) (sc8 : sc ≤ 8) (e3 : xg 0 h.2.1 39 3 = d) (hF : ∀ k, k < sc → xg 0 h.2.1 51 k = FR k) (hT : ∀ k, k < sc → (xg 0 h.2.1 52 k).toInt ≤ 999) (hR : ∀ k s, k < sc → s < 2 ^ mem → ∃ b : Bool, RW (4096 * k + s) = bl b ∧ xg 0 h.2.1 44 (4096 * k + s) = bl b) (hq : a_rq a_tb h) : xq f xi_X10_weigh xmi_X10_weigh 0 [(0, .ref 39)] [] h (fun v _ => v = some (.int (wgN (cvB FR RW mem sc d) mem))) := we10_q (W := Wn (cvB FR RW mem sc d) mem) (fun _ A => RA_n A) m12 m1 e4 e33 sc8 e3 hF hT hR hq
end XWN
end
