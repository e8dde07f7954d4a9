section XSV
/-- a sum -/
def sm (F : Nat → Nat) : Nat → Nat
  | 0 => 0
  | n + 1 => sm F n + F n
theorem sm_c {F G : Nat → Nat} : ∀ n, (∀ k, k < n → F k = G k) → sm F n = sm G n := by
  intro n
  induction n with
  | zero => intro _; rfl
  | succ n ih => intro h; show sm F n + F n = sm G n + G n; rw [ih (fun k hk => h k (by omega)), h n (by omega)]
theorem sm_0 : ∀ n, sm (fun _ => 0) n = 0 := by
  intro n
  induction n with
  | zero => rfl
  | succ n ih => show sm (fun _ => 0) n + 0 = 0; rw [ih]
theorem sm_a {F G : Nat → Nat} : ∀ n, sm (fun k => F k + G k) n = sm F n + sm G n := by
  intro n
  induction n with
  | zero => rfl
  | succ n ih => show sm (fun k => F k + G k) n + (F n + G n) = (sm F n + F n) + (sm G n + G n); rw [ih]; omega
theorem sm_x {F : Nat → Nat → Nat} {n : Nat} : ∀ m, sm (fun i => sm (F i) n) m = sm (fun j => sm (fun i => F i j) m) n := by
  intro m
  induction m with
  | zero => exact (sm_0 n).symm
  | succ m ih =>
    show sm (fun i => sm (F i) n) m + sm (F m) n = sm (fun j => sm (fun i => F i j) m + F m j) n
    rw [ih, sm_a]
theorem sm_le {F : Nat → Nat} {B : Nat} : ∀ n, (∀ k, k < n → F k ≤ B) → sm F n ≤ n * B := by
  intro n
  induction n with
  | zero => intro _; exact Nat.zero_le _
  | succ n ih =>
    intro h
    have a := ih (fun k hk => h k (by omega))
    have b := h n (by omega)
    show sm F n + F n ≤ (n + 1) * B
    rw [Nat.succ_mul]
    omega
theorem sm_ge {F : Nat → Nat} {k : Nat} : ∀ n, k < n → F k ≤ sm F n := by
  intro n
  induction n with
  | zero => intro h; omega
  | succ n ih =>
    intro h
    show F k ≤ sm F n + F n
    by_cases e : k = n
    · rw [e]; omega
    · have := ih (by omega); omega
theorem sm_1 {x j : Nat} : ∀ n, sm (fun i => if i = j then x else 0) n = if j < n then x else 0 := by
  intro n
  induction n with
  | zero => rw [if_neg (by omega)]; rfl
  | succ n ih =>
    show sm (fun i => if i = j then x else 0) n + (if n = j then x else 0) = _
    rw [ih]
    by_cases e : n = j
    · rw [if_pos e, if_neg (by omega), if_pos (by omega)]; omega
    · rw [if_neg e]
      by_cases l : j < n
      · rw [if_pos l, if_pos (by omega)]; omega
      · rw [if_neg l, if_neg (by omega)]
/-- in another order -/
theorem sm_p {P : Nat → Bool} {N L : Nat} {R G : Nat → Nat} (into : ∀ t, t < N → P t = true → R t < L) (inj : ∀ t t', t < N → t' < N → P t = true → P t' = true → R t = R t' → t = t') (sur : ∀ i, i < L → ∃ t, t < N ∧ P t = true ∧ R t = i) : sm (fun t => if P t = true then G (R t) else 0) N = sm G L := by
  have e1 : sm (fun t => if P t = true then G (R t) else 0) N = sm (fun t => sm (fun i => if P t = true ∧ i = R t then G i else 0) L) N := by
    refine sm_c N (fun t ht => ?_)
    cases c : P t with
    | false =>
      rw [if_neg (by decide)]
      rw [sm_c (G := fun _ => 0) L (fun i _ => if_neg (fun z => by cases z.1)), sm_0]
    | true =>
      rw [if_pos rfl, sm_c (G := fun i => if i = R t then G (R t) else 0) L (fun i _ => ?_), sm_1, if_pos (into t ht c)]
      by_cases z : i = R t
      · rw [if_pos ⟨rfl, z⟩, if_pos z, z]
      · rw [if_neg (fun y => z y.2), if_neg z]
  rw [e1, sm_x]
  refine sm_c L (fun i hi => ?_)
  obtain ⟨t0, a1, a2, a3⟩ := sur i hi
  rw [sm_c (G := fun t => if t = t0 then G i else 0) N (fun t ht => ?_), sm_1, if_pos a1]
  by_cases z : t = t0
  · rw [if_pos z, if_pos ⟨by rw [z]; exact a2, by rw [z]; exact a3.symm⟩]
  · rw [if_neg z, if_neg (fun y => z (inj t t0 ht a1 y.1 a2 (by rw [a3]; exact y.2.symm)))]
theorem cnt_sm {P : Nat → Bool} : ∀ n, cnt P n = sm (fun k => if P k = true then 1 else 0) n := by
  intro n
  induction n with
  | zero => rfl
  | succ n ih =>
    show (if P n = true then cnt P n + 1 else cnt P n) = sm (fun k => if P k = true then 1 else 0) n + (if P n = true then 1 else 0)
    rw [ih]
    split <;> rfl
/-! longs -/
abbrev nJ (n : Nat) : Int64 := Int64.ofNat n
theorem nJ_t {n : Nat} (h : n < 9223372036854775808) : (nJ n).toInt = n := Int64.toInt_ofNat_of_lt h
theorem nJ_a {a b : Nat} : nJ a + nJ b = nJ (a + b) := (Int64.ofNat_add a b).symm
theorem nJ_m {a b : Nat} : nJ a * nJ b = nJ (a * b) := (Int64.ofNat_mul a b).symm
theorem nJ_i {a : Nat} (h : a < 2 ^ 31) : (nI a).toInt64 = nJ a := by
  refine Int64.toInt_inj.mp ?_
  rw [Int32.toInt_toInt64, nI_toInt h, nJ_t (by omega)]
theorem nJ_d {a b : Nat} (ha : a < 9223372036854775808) (hb : b < 9223372036854775808) : nJ a / nJ b = nJ (a / b) := by
  have l : a / b ≤ a := Nat.div_le_self a b
  refine Int64.toInt_inj.mp ?_
  rw [Int64.toInt_div, nJ_t ha, nJ_t hb, nJ_t (by omega)]
  have e : Int.tdiv (a : Int) (b : Int) = ((a / b : Nat) : Int) := (Int.ofNat_tdiv a b).symm
  rw [e]
  have key : ∀ k : Nat, k < 9223372036854775808 → (k : Int).bmod (2 ^ 64) = k := fun k hk => Int.bmod_eq_of_le (by omega) (by omega)
  exact key _ (Nat.lt_of_le_of_lt l ha)
theorem nJ_r {a b : Nat} (ha : a < 9223372036854775808) (hb : b < 9223372036854775808) : nJ a - nJ a / nJ b * nJ b = nJ (a % b) := by
  have l : a % b ≤ a := Nat.mod_le a b
  refine Int64.toInt_inj.mp ?_
  rw [rem_t, nJ_t ha, nJ_t hb, nJ_t (by omega)]
  exact (Int.ofNat_tmod a b).symm
theorem nJ_z {b : Nat} (hb : b < 9223372036854775808) : xe_c .eq (lg_cmp (nJ b) 0) 0 = decide (b = 0) := by
  by_cases z : b = 0
  · rw [decide_eq_true z, z]; rfl
  · rw [decide_eq_false z]
    exact decide_eq_false (fun e => z (i64_inj hb (by omega) (lg0.mp e)))
theorem nJ_g {b : Nat} (h0 : 0 < b) (hb : b < 9223372036854775808) : xe_c .gt (lg_cmp (nJ b) 0) 0 = true := by
  have e : (0 : Int64) < nJ b := Int64.lt_iff_toInt_lt.mpr (by rw [nJ_t hb]; show (0 : Int) < _; omega)
  unfold lg_cmp
  have e1 : ¬ nJ b < 0 := fun z => by
    have := Int64.lt_iff_toInt_lt.mp z
    rw [nJ_t hb] at this
    have e0 : (0 : Int64).toInt = 0 := rfl
    omega
  have e2 : ¬ nJ b = 0 := fun z => by rw [z] at e; exact absurd e (by decide)
  rw [if_neg e2, if_pos e]
  decide
def fc : Nat → Nat
  | 0 => 1
  | n + 1 => fc n * (n + 1)
theorem fc_o : ((List.range 13).all fun k => decide (xo_f k = nJ (fc k))) = true := by decide +kernel
theorem fc_x {k : Nat} (h : k ≤ 12) : xo_f k = nJ (fc k) := of_decide_eq_true (List.all_eq_true.mp fc_o k (List.mem_range.mpr (by omega)))
theorem fcq2 : ((List.range 12).all fun m => (List.range (m + 1)).all fun k => decide (fc k * fc (m - k) ≤ 39916800)) = true := by decide +kernel
theorem fc_b {m k : Nat} (h : m ≤ 11) (hk : k ≤ m) : fc k * fc (m - k) ≤ 39916800 := of_decide_eq_true (List.all_eq_true.mp (List.all_eq_true.mp fcq2 m (List.mem_range.mpr (by omega))) k (List.mem_range.mpr (by omega)))
theorem fcq3 : ((List.range 13).all fun k => decide (fc k ≤ 479001600 ∧ 0 < fc k)) = true := by decide +kernel
theorem fc_l {k : Nat} (h : k ≤ 12) : fc k ≤ 479001600 ∧ 0 < fc k := of_decide_eq_true (List.all_eq_true.mp fcq3 k (List.mem_range.mpr (by omega)))
/-! the three shares -/
def tOr (W : Nat → Bool) (m a s : Nat) : Nat := if tw W a s = true then fc (sz s) * fc (m - 1 - sz s) else 0
def tLe (W : Nat → Bool) (m a s : Nat) : Nat := if mi W m false s = true then (if s.testBit a = true then 27720 / sz s else 0) else 0
def upS (W : Nat → Bool) (m a : Nat) : Nat → Nat
  | 0 => cnt (tw W a) (2 ^ m)
  | 1 => sm (tOr W m a) (2 ^ m)
  | _ => sm (tLe W m a) (2 ^ m)
def dnS (W : Nat → Bool) (m : Nat) : Nat → Nat
  | 0 => sm (fun k => cnt (tw W k) (2 ^ m)) m
  | 1 => fc m
  | _ => 27720 * cnt (mi W m false) (2 ^ m)
theorem sz_tw {W : Nat → Bool} {m a s : Nat} (m12 : m ≤ 12) (hs : s < 2 ^ m) (ha : a < m) (h : tw W a s = true) : sz s + 1 ≤ m := by
  have h1 : s.testBit a = false := by
    unfold tw at h
    rw [Bool.and_eq_true, Bool.not_eq_true'] at h
    exact h.1
  have g : ∀ n, a < n → cnt (fun i => s.testBit i) n + 1 ≤ n := by
    intro n
    induction n with
    | zero => intro h; omega
    | succ n ih =>
      intro h
      by_cases z : a = n
      · have := cnt_le (P := fun i => s.testBit i) n
        rw [cnt_f (by rw [← z]; exact h1)]
        omega
      · have := ih (by omega)
        show (if s.testBit n = true then cnt (fun i => s.testBit i) n + 1 else cnt (fun i => s.testBit i) n) + 1 ≤ _
        split <;> omega
  have hi : ∀ j, cnt (fun i => s.testBit i) (m + j) = cnt (fun i => s.testBit i) m := by
    intro j
    induction j with
    | zero => rfl
    | succ j ih =>
      rw [← ih]
      exact cnt_f (Nat.testBit_lt_two_pow (Nat.lt_of_lt_of_le hs (Nat.pow_le_pow_right (by decide) (Nat.le_add_right m j))))
  have e := hi (12 - m)
  rw [show m + (12 - m) = 12 by omega] at e
  unfold sz
  rw [e]
  exact g m ha
theorem up_b {W : Nat → Bool} {m a w : Nat} (m12 : m ≤ 12) (ha : a < m) : upS W m a w < 2 ^ 40 := by
  have p12 : 2 ^ m ≤ 4096 := show 2 ^ m ≤ 2 ^ 12 from Nat.pow_le_pow_right (by decide) m12
  match w with
  | 0 => exact Nat.lt_of_le_of_lt (cnt_le _) (by omega)
  | 1 =>
    refine Nat.lt_of_le_of_lt (sm_le (B := 39916800) _ (fun s hs => ?_)) ?_
    · unfold tOr
      by_cases z : tw W a s = true
      · rw [if_pos z]
        have := sz_tw m12 hs ha z
        exact fc_b (by omega) (by omega)
      · rw [if_neg z]; exact Nat.zero_le _
    · exact Nat.lt_of_le_of_lt (Nat.mul_le_mul_right _ p12) (by decide)
  | w + 2 =>
    refine Nat.lt_of_le_of_lt (sm_le (B := 27720) _ (fun s hs => ?_)) ?_
    · unfold tLe
      split
      · split
        · exact Nat.div_le_self _ _
        · exact Nat.zero_le _
      · exact Nat.zero_le _
    · exact Nat.lt_of_le_of_lt (Nat.mul_le_mul_right _ p12) (by decide)
theorem dn_b {W : Nat → Bool} {m w : Nat} (m12 : m ≤ 12) : dnS W m w < 2 ^ 40 := by
  have p12 : 2 ^ m ≤ 4096 := show 2 ^ m ≤ 2 ^ 12 from Nat.pow_le_pow_right (by decide) m12
  match w with
  | 0 =>
    refine Nat.lt_of_le_of_lt (sm_le (B := 4096) _ (fun s hs => Nat.le_trans (cnt_le _) p12)) ?_
    exact Nat.lt_of_le_of_lt (Nat.mul_le_mul_right _ m12) (by decide)
  | 1 => exact Nat.lt_of_le_of_lt (fc_l m12).1 (by decide)
  | w + 2 =>
    have := cnt_le (P := mi W m false) (2 ^ m)
    show 27720 * cnt (mi W m false) (2 ^ m) < 2 ^ 40
    omega
theorem sm_z {F : Nat → Nat} : ∀ n, (∀ k, k < n → F k = 0) → sm F n = 0 := fun n h => (sm_c n h).trans (sm_0 n)
/-- where nothing is above, nothing is asked; else something is below -/
theorem dn_p {W : Nat → Bool} {m a w : Nat} (m12 : m ≤ 12) (ha : a < m) (h : upS W m a w ≠ 0) : dnS W m w ≠ 0 := by
  match w with
  | 0 =>
    have := sm_ge (F := fun k => cnt (tw W k) (2 ^ m)) (k := a) m ha
    show sm (fun k => cnt (tw W k) (2 ^ m)) m ≠ 0
    have h : cnt (tw W a) (2 ^ m) ≠ 0 := h
    omega
  | 1 => exact Nat.ne_of_gt (fc_l m12).2
  | w + 2 =>
    intro z
    have z : 27720 * cnt (mi W m false) (2 ^ m) = 0 := z
    refine h (sm_z _ (fun k hk => if_neg (fun y => ?_)))
    have := cnt_lt (P := mi W m false) y hk
    omega
/-- what share answers -/
def shV (W : Nat → Bool) (m a w : Nat) (z : Bool) : Int64 := if upS W m a w = 0 then cond z 1 0 else nJ (cond z (dnS W m w) (upS W m a w) / Nat.gcd (upS W m a w) (dnS W m w))
end XSV
