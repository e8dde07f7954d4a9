section XSW
set_option maxRecDepth 100000 in
set_option maxHeartbeats 4000000 in
/-- X9.commonDivisor -/
theorem cd_l {h : xh_H} (hq : a_rq a_tb h) : ∀ (n f i a b : Nat), b ≤ a → a < 2 ^ 62 → a * b < 2 ^ n → i + n ≤ 99 → xq f xi_X9_commonDivisor xmi_X9_commonDivisor 9 [(4, .long (nJ a)), (6, .long (nJ b)), (8, .int (nI i))] [] h (fun v h' => h = h' ∧ v = some (.long (nJ (Nat.gcd a b)))) := by
  have fin : ∀ (f i a : Nat), i ≤ 99 → xq f xi_X9_commonDivisor xmi_X9_commonDivisor 9 [(4, .long (nJ a)), (6, .long (nJ 0)), (8, .int (nI i))] [] h (fun v h' => h = h' ∧ v = some (.long (nJ (Nat.gcd a 0)))) := by
    intro f i a hi
    refine xq_n 46 [] [] [.long (nJ a)] h [false, true] 60 hq rfl ⟨nge_f (b := 100) (by omega) (by decide) (by omega), nJ_z (b := 0) (by decide), trivial⟩ (fun _ => ?_)
    exact xq_ret rfl rfl rfl ⟨rfl, by rw [Nat.gcd_zero_right]⟩
  intro n
  induction n with
  | zero =>
    intro f i a b hb ha hp hi
    have : b = 0 := by
      rcases Nat.eq_zero_or_pos b with z | z
      · exact z
      · have := Nat.mul_le_mul hb z
        have e : 2 ^ 0 = 1 := rfl
        have := Nat.mul_pos (Nat.lt_of_lt_of_le z hb) z
        omega
    subst this
    exact fin f i a (by omega)
  | succ n ih =>
    intro f i a b hb ha hp hi
    rcases Nat.eq_zero_or_pos b with z | z
    · subst z; exact fin f i a (by omega)
    · refine xq_n 9 [4, 6, 8] [(4, .long (nJ b)), (6, .long (nJ a - nJ a / nJ b * nJ b)), (8, .int (nI i + Int32.ofInt 1))] [] h [false, false] 60 hq rfl ⟨nge_f (b := 100) (by omega) (by decide) (by omega), (nJ_z (by omega)).trans (decide_eq_false (by omega)), trivial⟩ (fun _ => ?_)
      rw [nI_1', nJ_r (by omega) (by omega)]
      have r := Nat.mod_lt a z
      have h1 : a = b * (a / b) + a % b := (Nat.div_add_mod a b).symm
      have h2 : 1 ≤ a / b := (Nat.one_le_div_iff z).mpr hb
      have h3 : b ≤ b * (a / b) := Nat.le_mul_of_pos_right b h2
      have h4 : b + a % b ≤ a := by omega
      have h5 : (b + a % b) * b ≤ a * b := Nat.mul_le_mul_right b h4
      have h6 : a % b * b ≤ b * b := Nat.mul_le_mul_right b (Nat.le_of_lt r)
      rw [Nat.add_mul] at h5
      have h7 : 2 ^ (n + 1) = 2 * 2 ^ n := by rw [Nat.pow_succ, Nat.mul_comm]
      have g := ih f (i + 1) b (a % b) (Nat.le_of_lt r) (by omega) (by rw [Nat.mul_comm]; omega) (by omega)
      rw [show Nat.gcd b (a % b) = Nat.gcd a b by rw [Nat.gcd_comm b, ← Nat.gcd_rec, Nat.gcd_comm]] at g
      exact g
theorem cd_q {f a b : Nat} {h : xh_H} (ha : a < 2 ^ 40) (hb : b < 2 ^ 40) (hq : a_rq a_tb h) : xq f xi_X9_commonDivisor xmi_X9_commonDivisor 0 [(0, .long (nJ a)), (2, .long (nJ b))] [] h (fun v h' => h = h' ∧ v = some (.long (nJ (Nat.gcd a b)))) := by
  have pr : a * b < 2 ^ 90 := Nat.lt_of_le_of_lt (Nat.mul_le_mul (Nat.le_of_lt ha) (Nat.le_of_lt hb)) (by decide)
  refine xq_n 9 [4, 6, 8] [(4, .long (nJ a)), (6, .long (nJ b)), (8, .int (Int32.ofInt 0))] [] h [] 60 hq rfl trivial (fun _ => ?_)
  by_cases z : b ≤ a
  · exact cd_l hq 90 f 0 a b z (by omega) pr (by decide)
  · refine xq_n 9 [4, 6, 8] [(4, .long (nJ b)), (6, .long (nJ a - nJ a / nJ b * nJ b)), (8, .int (nI 0 + Int32.ofInt 1))] [] h [false, false] 60 hq rfl ⟨nge_f (a := 0) (b := 100) (by omega) (by decide) (by omega), (nJ_z (by omega)).trans (decide_eq_false (by omega)), trivial⟩ (fun _ => ?_)
    rw [nI_1', nJ_r (by omega) (by omega), Nat.mod_eq_of_lt (by omega), Nat.gcd_comm]
    exact cd_l hq 90 f 1 b a (by omega) (by omega) (by rw [Nat.mul_comm]; exact pr) (by decide)
section
variable {W : Nat → Bool} {m q r : Nat} {h : xh_H}
set_option maxRecDepth 100000 in
set_option maxHeartbeats 4000000 in
/-- Powers.ordersOf -/
theorem oo_l {a : Nat} (A : LA W m q r h) (m12 : m ≤ 12) (ha : a < m) (hq : a_rq a_tb h) : ∀ (n f s : Nat), s + n = 2 ^ m → xq f xi_X2_ordersOf xmi_X2_ordersOf 5 [(0, .ref 14), (1, .int (nI a)), (2, .long (nJ (sm (tOr W m a) s))), (4, .int (nI s))] [] h (fun v h' => h = h' ∧ v = some (.long (nJ (sm (tOr W m a) (2 ^ m))))) := by
  have p12 : 2 ^ m ≤ 4096 := show 2 ^ m ≤ 2 ^ 12 from Nat.pow_le_pow_right (by decide) m12
  intro n
  induction n with
  | zero =>
    intro f s sn
    have e : s = 2 ^ m := by omega
    subst e
    refine xq_n 61 [] [] [.long (nJ (sm (tOr W m a) (2 ^ m)))] h [true] 60 hq rfl ⟨gtt A m12, trivial⟩ (fun _ => ?_)
    exact xq_ret rfl rfl rfl ⟨rfl, rfl⟩
  | succ n ih =>
    intro f s sn
    have hs : s < 2 ^ m := by omega
    refine xq_n 18 [0, 1, 2, 4] [(0, .ref 14), (1, .int (nI a)), (2, .long (nJ (sm (tOr W m a) s))), (4, .int (nI s))] [.int (nI a), .int (nI s), .ref 14] h [false] 60 hq rfl ⟨gtf A m12 hs, trivial⟩ (fun _ => ?_)
    refine xq_run hq rfl rfl (tb_q A m12 hs ha hq) ?_
    rintro v h1 ⟨rfl, rfl⟩
    have g := ih f (s + 1) (by omega)
    rw [show sm (tOr W m a) (s + 1) = sm (tOr W m a) s + tOr W m a s from rfl] at g
    cases c : tw W a s with
    | false =>
      rw [show tOr W m a s = 0 from if_neg (by rw [c]; decide), Nat.add_zero] at g
      refine xq_n 5 [0, 1, 2, 4] [(0, .ref 14), (1, .int (nI a)), (2, .long (nJ (sm (tOr W m a) s))), (4, .int (nI s + Int32.ofInt 1))] [] h [true] 60 hq rfl ⟨rfl, trivial⟩ (fun _ => ?_)
      rw [nI_1']
      exact g
    | true =>
      have sl := sz_tw m12 hs ha c
      rw [show tOr W m a s = fc (sz s) * fc (m - 1 - sz s) from if_pos c] at g
      refine xq_n 26 [0, 1, 2, 4] [(0, .ref 14), (1, .int (nI a)), (2, .long (nJ (sm (tOr W m a) s))), (4, .int (nI s))] [.int (nI s)] h [false] 60 hq rfl ⟨rfl, trivial⟩ (fun _ => ?_)
      refine xq_run hq rfl rfl (bit_q (by omega) hq) ?_
      rintro v h1 ⟨rfl, rfl⟩
      refine xq_n 5 [0, 1, 2, 4] [(0, .ref 14), (1, .int (nI a)), (2, .long (nJ (sm (tOr W m a) s) + xo_f (nI (sz s)).toNatClampNeg * xo_f ((xg 0 h.2.1 14 7 - Int32.ofInt 1) - nI (sz s)).toNatClampNeg)), (4, .int (nI s + Int32.ofInt 1))] [] h [] 60 hq rfl trivial (fun _ => ?_)
      rw [nI_1', A.2.2.2.2.1, show nI m - Int32.ofInt 1 = nI (m - 1) from nI_sub (a := m) (b := 1) (by omega), nI_sub (by omega), nI_clamp (by omega), nI_clamp (by omega), fc_x (by omega), fc_x (by omega), nJ_m, nJ_a]
      exact g
theorem oo_q {f a : Nat} (A : LA W m q r h) (m12 : m ≤ 12) (ha : a < m) (hq : a_rq a_tb h) : xq f xi_X2_ordersOf xmi_X2_ordersOf 0 [(0, .ref 14), (1, .int (nI a))] [] h (fun v h' => h = h' ∧ v = some (.long (nJ (sm (tOr W m a) (2 ^ m))))) := by
  refine xq_n 5 [0, 1, 2, 4] [(0, .ref 14), (1, .int (nI a)), (2, .long 0), (4, .int (Int32.ofInt 0))] [] h [] 60 hq rfl trivial (fun _ => ?_)
  exact oo_l A m12 ha hq (2 ^ m) f 0 (by omega)
/-- one of a row's sets -/
def rwT (h : xh_H) (a j : Nat) : Nat := if (xg 0 h.2.1 15 j).toInt.toNat.testBit a = true then 27720 / sz (xg 0 h.2.1 15 j).toInt.toNat else 0
theorem sz_1 {t a : Nat} (ha : a < 12) (h : t.testBit a = true) : 1 ≤ sz t := by
  have := cnt_lt (P := fun i => t.testBit i) h ha
  unfold sz
  omega
set_option maxRecDepth 100000 in
set_option maxHeartbeats 4000000 in
/-- Powers.partsOf -/
theorem po_l {a L : Nat} (L9 : L ≤ 924) (e9 : xg 0 h.2.1 14 9 = nI L) (R : ∀ j, j < L → ∃ t, t < 4096 ∧ xg 0 h.2.1 15 j = nI t) (ha : a < 12) (hq : a_rq a_tb h) : ∀ (n f i : Nat), i + n = L → xq f xi_X2_partsOf xmi_X2_partsOf 5 [(0, .ref 14), (1, .int (nI a)), (2, .long (nJ (sm (rwT h a) i))), (4, .int (nI i))] [] h (fun v h' => h = h' ∧ v = some (.long (nJ (sm (rwT h a) L)))) := by
  intro n
  induction n with
  | zero =>
    intro f i hn
    have e : i = L := by omega
    subst e
    refine xq_n 62 [] [] [.long (nJ (sm (rwT h a) i))] h [true] 60 hq rfl ⟨(show xe_c .ge (nI i) (xg 0 h.2.1 14 9) = true by rw [e9]; exact nge_t (by omega) (by omega) (Nat.le_refl _)), trivial⟩ (fun _ => ?_)
    exact xq_ret rfl rfl rfl ⟨rfl, rfl⟩
  | succ n ih =>
    intro f i hn
    obtain ⟨t, t12, et⟩ := R i (by omega)
    have ec : xg 0 h.2.1 15 (nI i).toNatClampNeg = nI t := by rw [nI_clamp (by omega)]; exact et
    have en : (xg 0 h.2.1 15 i).toInt.toNat = t := by rw [et, nI_toInt (by omega)]; rfl
    have g := ih f (i + 1) (by omega)
    rw [show sm (rwT h a) (i + 1) = sm (rwT h a) i + rwT h a i from rfl] at g
    have eb : (xg 0 h.2.1 15 (nI i).toNatClampNeg >>> (nI a &&& 31)) &&& Int32.ofInt 1 = bl (t.testBit a) := by rw [ec, nI_b0 (by omega) (by omega), bl_nI]
    have gb := be' eb
    refine xq_n 21 [0, 1, 2, 4] [(0, .ref 14), (1, .int (nI a)), (2, .long (nJ (sm (rwT h a) i))), (4, .int (nI i))] [.int (xg 0 h.2.1 15 (nI i).toNatClampNeg)] h [false] 60 hq rfl ⟨(show xe_c .ge (nI i) (xg 0 h.2.1 14 9) = false by rw [e9]; exact nge_f (by omega) (by omega) (by omega)), trivial⟩ (fun _ => ?_)
    rw [ec]
    refine xq_run hq rfl rfl (bit_q (by omega) hq) ?_
    rintro v h1 ⟨rfl, rfl⟩
    cases c : t.testBit a with
    | false =>
      rw [c] at gb
      rw [show rwT h a i = 0 by unfold rwT; rw [en, c]; rfl, Nat.add_zero] at g
      refine xq_n 5 [0, 1, 2, 4] [(0, .ref 14), (1, .int (nI a)), (2, .long (nJ (sm (rwT h a) i))), (4, .int (nI i + Int32.ofInt 1))] [] h [true] 60 hq rfl ⟨gb, trivial⟩ (fun _ => ?_)
      rw [nI_1']
      exact g
    | true =>
      rw [c] at gb
      have s1 := sz_1 ha c
      have s2 := sz_le (s := t)
      rw [show rwT h a i = 27720 / sz t by unfold rwT; rw [en, c]; rfl] at g
      refine xq_n 5 [0, 1, 2, 4] [(0, .ref 14), (1, .int (nI a)), (2, .long (nJ (sm (rwT h a) i) + 27720 / (nI (sz t)).toInt64)), (4, .int (nI i + Int32.ofInt 1))] [] h [false, false] 60 hq rfl ⟨gb, xle_f (by rw [nI_toInt (by omega)]; show (0 : Int) < _; omega), trivial⟩ (fun _ => ?_)
      rw [nI_1', nJ_i (by omega), show (27720 : Int64) = nJ 27720 from rfl, nJ_d (by omega) (by omega), nJ_a]
      exact g
theorem po_q {f a L : Nat} (L9 : L ≤ 924) (e9 : xg 0 h.2.1 14 9 = nI L) (R : ∀ j, j < L → ∃ t, t < 4096 ∧ xg 0 h.2.1 15 j = nI t) (ha : a < 12) (hq : a_rq a_tb h) : xq f xi_X2_partsOf xmi_X2_partsOf 0 [(0, .ref 14), (1, .int (nI a))] [] h (fun v h' => h = h' ∧ v = some (.long (nJ (sm (rwT h a) L)))) := by
  refine xq_n 5 [0, 1, 2, 4] [(0, .ref 14), (1, .int (nI a)), (2, .long 0), (4, .int (Int32.ofInt 0))] [] h [] 60 hq rfl trivial (fun _ => ?_)
  exact po_l L9 e9 R ha hq L f 0 (by omega)
/-- the least ones in their order, or by their numbers -/
theorem po_e {a : Nat} (m12 : m ≤ 12) (M : Wm W m) (P : PD W m h) : lcn (mi W m false) (2 ^ m) = cnt (mi W m false) (2 ^ m) ∧ (∀ j, j < cnt (mi W m false) (2 ^ m) → ∃ t, t < 4096 ∧ xg 0 h.2.1 15 j = nI t) ∧ sm (rwT h a) (cnt (mi W m false) (2 ^ m)) = sm (tLe W m a) (2 ^ m) := by
  have p12 : 2 ^ m ≤ 4096 := show 2 ^ m ≤ 2 ^ 12 from Nat.pow_le_pow_right (by decide) m12
  have l9 := mi_924 (hd := false) m12 M
  obtain ⟨ra, rb⟩ := rw_all m12 M P.2.2.1.2
  refine ⟨Nat.min_eq_left l9, fun j hj => ?_, ?_⟩
  · obtain ⟨t, t1, -, -, t4⟩ := rb j hj
    exact ⟨t, by omega, t4⟩
  · rw [← sm_p (P := mi W m false) (N := 2 ^ m) (L := cnt (mi W m false) (2 ^ m)) (R := rk (mi W m false) (2 ^ m)) (G := rwT h a) (fun t ht hp => rk_tot hp ht) (fun t t' ht ht' hp hp' e => rk_ij hp hp' ht ht' e) (fun i hi => by
      obtain ⟨t, t1, t2, t3, -⟩ := rb i hi
      exact ⟨t, t1, t2, t3⟩)]
    refine sm_c _ (fun t ht => ?_)
    unfold tLe
    by_cases z : mi W m false t = true
    · rw [if_pos z, if_pos z]
      obtain ⟨t', t1, t2, t3, t4⟩ := rb _ (rk_tot z ht)
      have e := rk_ij t2 z t1 ht t3
      subst e
      unfold rwT
      rw [t4, nI_toInt (by omega)]
      rfl
    · rw [if_neg z, if_neg z]
set_option maxRecDepth 100000 in
set_option maxHeartbeats 4000000 in
theorem lw_l (m12 : m ≤ 12) (e7 : xg 0 h.2.1 14 7 = nI m) (P : PD W m h) (hq : a_rq a_tb h) : ∀ (n f i : Nat), i + n = m → xq f xi_X2_lowerShare xmi_X2_lowerShare 34 [(0, .ref 14), (2, .long (nJ (sm (fun k => cnt (tw W k) (2 ^ m)) i))), (4, .int (nI i))] [] h (fun v h' => h = h' ∧ v = some (.long (nJ (sm (fun k => cnt (tw W k) (2 ^ m)) m)))) := by
  have p12 : 2 ^ m ≤ 4096 := show 2 ^ m ≤ 2 ^ 12 from Nat.pow_le_pow_right (by decide) m12
  intro n
  induction n with
  | zero =>
    intro f i hn
    have e : i = m := by omega
    subst e
    refine xq_n 61 [] [] [.long (nJ (sm (fun k => cnt (tw W k) (2 ^ i)) i))] h [true] 60 hq rfl ⟨(show xe_c .ge (nI i) (xg 0 h.2.1 14 7) = true by rw [e7]; exact nge_t (by omega) (by omega) (Nat.le_refl _)), trivial⟩ (fun _ => ?_)
    exact xq_ret rfl rfl rfl ⟨rfl, rfl⟩
  | succ n ih =>
    intro f i hn
    have := cnt_le (P := tw W i) (2 ^ m)
    refine xq_n 34 [0, 2, 4] [(0, .ref 14), (2, .long (nJ (sm (fun k => cnt (tw W k) (2 ^ m)) i) + (xg 0 h.2.1 17 (nI i).toNatClampNeg).toInt64)), (4, .int (nI i + Int32.ofInt 1))] [] h [false] 60 hq rfl ⟨(show xe_c .ge (nI i) (xg 0 h.2.1 14 7) = false by rw [e7]; exact nge_f (by omega) (by omega) (by omega)), trivial⟩ (fun _ => ?_)
    rw [nI_1', nI_clamp (by omega), P.1 i (by omega), nJ_i (by omega), nJ_a]
    exact ih f (i + 1) (by omega)
set_option maxRecDepth 100000 in
set_option maxHeartbeats 4000000 in
/-- Powers.lowerShare -/
theorem lw_q {f w : Nat} (w2 : w ≤ 2) (m12 : m ≤ 12) (M : Wm W m) (e7 : xg 0 h.2.1 14 7 = nI m) (P : PD W m h) (hq : a_rq a_tb h) : xq f xi_X2_lowerShare xmi_X2_lowerShare 0 [(0, .ref 14), (1, .int (nI w))] [] h (fun v h' => h = h' ∧ v = some (.long (nJ (dnS W m w)))) := by
  match w, w2 with
  | 0, _ =>
    refine xq_n 34 [0, 2, 4] [(0, .ref 14), (2, .long 0), (4, .int (Int32.ofInt 0))] [] h [true, true] 60 hq rfl ⟨rfl, rfl, trivial⟩ (fun _ => ?_)
    exact lw_l m12 e7 P hq m f 0 (by omega)
  | 1, _ =>
    refine xq_n 13 [] [] [.long (xo_f (xg 0 h.2.1 14 7).toNatClampNeg)] h [false] 60 hq rfl ⟨rfl, trivial⟩ (fun _ => ?_)
    refine xq_ret rfl rfl rfl ⟨rfl, ?_⟩
    rw [e7, nI_clamp (by omega), fc_x m12]
    rfl
  | 2, _ =>
    have l9 := mi_924 (hd := false) m12 M
    refine xq_n 28 [] [] [.long (27720 * (xg 0 h.2.1 14 9).toInt64)] h [true, false] 60 hq rfl ⟨rfl, rfl, trivial⟩ (fun _ => ?_)
    refine xq_ret rfl rfl rfl ⟨rfl, ?_⟩
    rw [P.2.2.1.1, show lcn (mi W m false) (2 ^ m) = cnt (mi W m false) (2 ^ m) from Nat.min_eq_left l9, nJ_i (by omega), show (27720 : Int64) = nJ 27720 from rfl, nJ_m]
    rfl
  | w + 3, w2 => omega
set_option maxRecDepth 100000 in
set_option maxHeartbeats 4000000 in
/-- Powers.upperShare -/
theorem uw_q {f w a : Nat} (w2 : w ≤ 2) (m12 : m ≤ 12) (ha : a < m) (M : Wm W m) (A : LA W m q r h) (P : PD W m h) (hq : a_rq a_tb h) : xq f xi_X2_upperShare xmi_X2_upperShare 0 [(0, .ref 14), (1, .int (nI a)), (2, .int (nI w))] [] h (fun v h' => h = h' ∧ v = some (.long (nJ (upS W m a w)))) := by
  have p12 : 2 ^ m ≤ 4096 := show 2 ^ m ≤ 2 ^ 12 from Nat.pow_le_pow_right (by decide) m12
  match w, w2 with
  | 0, _ =>
    have := cnt_le (P := tw W a) (2 ^ m)
    refine xq_n 11 [] [] [.long (xg 0 h.2.1 17 (nI a).toNatClampNeg).toInt64] h [false] 60 hq rfl ⟨rfl, trivial⟩ (fun _ => ?_)
    refine xq_ret rfl rfl rfl ⟨rfl, ?_⟩
    rw [nI_clamp (by omega), P.1 a ha, nJ_i (by omega)]
    rfl
  | 1, _ =>
    refine xq_n 19 [] [] [.int (nI a), .ref 14] h [true, false] 60 hq rfl ⟨rfl, rfl, trivial⟩ (fun _ => ?_)
    refine xq_run hq rfl rfl (oo_q A m12 ha hq) ?_
    rintro v h1 ⟨rfl, rfl⟩
    refine xq_n 30 [] [] [.long (nJ (sm (tOr W m a) (2 ^ m)))] h [] 60 hq rfl trivial (fun _ => ?_)
    exact xq_ret rfl rfl rfl ⟨rfl, rfl⟩
  | 2, _ =>
    obtain ⟨p1, p2, p3⟩ := po_e (a := a) m12 M P
    have l9 := mi_924 (hd := false) m12 M
    refine xq_n 27 [] [] [.int (nI a), .ref 14] h [true, true] 60 hq rfl ⟨rfl, rfl, trivial⟩ (fun _ => ?_)
    refine xq_run hq rfl rfl (po_q l9 (by rw [P.2.2.1.1, p1]) p2 (by omega) hq) ?_
    rintro v h1 ⟨rfl, rfl⟩
    rw [p3]
    exact xq_ret rfl rfl rfl ⟨rfl, rfl⟩
  | w + 3, w2 => omega
end
section
variable {mem sc : Nat} {d : Int32} {h : xh_H}
set_option maxRecDepth 100000 in
set_option maxHeartbeats 4000000 in
/-- X9.share, where it answers -/
theorem sh9_q {f a w : Nat} {z : Int32} (hi : a_inv a_tb h) (hn : 72 ≤ h.1.length) (e9 : xg 0 h.2.1 0 9 = nI mem) (m1 : 1 ≤ mem) (m12 : mem ≤ 12) (e8 : xg 0 h.2.1 0 8 = nI sc) (sc8 : sc ≤ 8) (e10 : xg 0 h.2.1 0 10 = d) (si : SI h) (pi : PI h) (M : Wm (cvB (fun k => xg 0 h.2.1 51 k) (fun k => xg 0 h.2.1 44 k) mem sc d) mem) (ha : a < mem) (w2 : w ≤ 2) (z0 : xe_c .lt z 0 = false) (z1 : xe_c .le z (Int32.ofInt 1) = true) : xq f xi_X9_share xmi_X9_share 0 [(0, .ref 0), (1, .int (nI a)), (2, .int (nI w)), (3, .int z)] [] h (fun v h' => v = some (.long (shV (cvB (fun k => xg 0 h.2.1 51 k) (fun k => xg 0 h.2.1 44 k) mem sc d) mem a w (xe_c .ne z 0))) ∧ Yf h h') := by
  have hq := a_rq_of hi.1 hn
  refine xq_n 2 [0, 1, 2, 3] [(0, .ref 0), (1, .int (nI a)), (2, .int (nI w)), (3, .int z)] [.int (nI a), .ref 0] h [] 60 hq rfl trivial (fun _ => ?_)
  refine xq_run hq rfl rfl (mem9_q (z := nI mem) e9 hq) ?_
  rintro v h1 ⟨rfl, rfl⟩
  rw [show (!xe_c .lt (nI a) 0 && !xe_c .ge (nI a) (nI mem)) = true by rw [xlt_f (by rw [nI_toInt (by omega)]; show (0 : Int) ≤ _; omega), nge_f (by omega) (by omega) ha]; rfl]
  refine xq_n 35 [1, 2, 3] [(1, .int (nI a)), (2, .int (nI w)), (3, .int z)] [.ref 0] h [false, false, false, false, true] 60 hq rfl ⟨rfl, xlt_f (by rw [nI_toInt (by omega)]; show (0 : Int) ≤ _; omega), xgt_f (by rw [nI_toInt (by omega)]; show _ ≤ (2 : Int); omega), z0, z1, trivial⟩ (fun _ => ?_)
  refine xq_run hq rfl rfl (pt9_q hi hn e9 m1 m12 e8 sc8 e10 si pi) ?_
  rintro v h1 ⟨rfl, Y, PP, q, r, A, P⟩
  have hq1 := Yf_q hi hn Y
  generalize cvB (fun k => xg 0 h.2.1 51 k) (fun k => xg 0 h.2.1 44 k) mem sc d = W at M A P ⊢
  refine xq_n 44 [1, 2, 3, 4] [(1, .int (nI a)), (2, .int (nI w)), (3, .int z), (4, .ref 14)] [.int (nI w), .int (nI a), .ref 14] h1 [] 60 hq1 rfl trivial (fun _ => ?_)
  refine xq_run hq1 rfl rfl (uw_q w2 m12 ha M A P hq1) ?_
  rintro v h2 ⟨rfl, rfl⟩
  refine xq_n 52 [1, 2, 3, 4, 5] [(1, .int (nI a)), (2, .int (nI w)), (3, .int z), (4, .ref 14), (5, .long (nJ (upS W mem a w)))] [.int (nI w), .ref 14] h1 [] 60 hq1 rfl trivial (fun _ => ?_)
  refine xq_run hq1 rfl rfl (lw_q w2 m12 M A.2.2.2.2.1 P hq1) ?_
  rintro v h2 ⟨rfl, rfl⟩
  refine xq_n 61 [3, 5, 7] [(3, .int z), (5, .long (nJ (upS W mem a w))), (7, .long (nJ (dnS W mem w)))] [.long (nJ (dnS W mem w)), .long (nJ (upS W mem a w))] h1 [] 60 hq1 rfl trivial (fun _ => ?_)
  have ub := up_b (W := W) (w := w) m12 ha
  have db := dn_b (W := W) (w := w) m12
  refine xq_run hq1 rfl rfl (cd_q ub db hq1) ?_
  rintro v h2 ⟨rfl, rfl⟩
  unfold shV
  by_cases u0 : upS W mem a w = 0
  · rw [if_pos u0]
    have g1 : xe_c .eq (lg_cmp (nJ (upS W mem a w)) 0) 0 = true := (nJ_z (by omega)).trans (decide_eq_true u0)
    cases c : xe_c .ne z 0 with
    | true =>
      refine xq_n 89 [] [] [.long 1] h1 [true, true] 60 hq1 rfl ⟨g1, c, trivial⟩ (fun _ => ?_)
      exact xq_ret rfl rfl rfl ⟨rfl, Y⟩
    | false =>
      refine xq_n 89 [] [] [.long 0] h1 [true, false] 60 hq1 rfl ⟨g1, c, trivial⟩ (fun _ => ?_)
      exact xq_ret rfl rfl rfl ⟨rfl, Y⟩
  · rw [if_neg u0]
    have gl : Nat.gcd (upS W mem a w) (dnS W mem w) ≤ upS W mem a w := Nat.gcd_le_left _ (by omega)
    have g0 : 0 < Nat.gcd (upS W mem a w) (dnS W mem w) := Nat.gcd_pos_of_pos_left _ (by omega)
    have g1 : xe_c .eq (lg_cmp (nJ (upS W mem a w)) 0) 0 = false := (nJ_z (by omega)).trans (decide_eq_false u0)
    have g2 := nJ_g g0 (by omega)
    cases c : xe_c .ne z 0 with
    | true =>
      refine xq_n 107 [] [] [.long (nJ (dnS W mem w) / nJ (Nat.gcd (upS W mem a w) (dnS W mem w)))] h1 [false, true, true] 60 hq1 rfl ⟨g1, g2, c, trivial⟩ (fun _ => ?_)
      exact xq_ret rfl rfl rfl ⟨by rw [nJ_d (by omega) (by omega)]; rfl, Y⟩
    | false =>
      refine xq_n 107 [] [] [.long (nJ (upS W mem a w) / nJ (Nat.gcd (upS W mem a w) (dnS W mem w)))] h1 [false, true, false] 60 hq1 rfl ⟨g1, g2, c, trivial⟩ (fun _ => ?_)
      exact xq_ret rfl rfl rfl ⟨by rw [nJ_d (by omega) (by omega)]; rfl, Y⟩
end
end XSW
