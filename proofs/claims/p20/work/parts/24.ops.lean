section XAO
def a_I (lo hi : Int) : aV := (0, lo, hi, none, [], [])
def a_top : aV := a_I (-2147483648) 2147483647
theorem a_I_ok {σ : aN → Int} {lo hi : Int} {x : Int32} (h1 : lo ≤ x.toInt) (h2 : x.toInt ≤ hi) : a_i σ (a_I lo hi) x := ⟨h1, h2, fun n c e => (by cases e), fun _ q hq => (by cases hq), fun _ q hq => (by cases hq)⟩
theorem a_top_ok {σ : aN → Int} (x : Int32) : a_i σ a_top x := a_I_ok (ar_rng x).1 (ar_rng x).2
def a_in (p : Int × Int) : Bool := decide (-2147483648 ≤ p.1) && decide (p.2 ≤ 2147483647)
theorem a_in_ok {p : Int × Int} (h : a_in p = true) : -2147483648 ≤ p.1 ∧ p.2 ≤ 2147483647 := by
  obtain ⟨h1, h2⟩ := xw_bb h
  exact ⟨of_decide_eq_true h1, of_decide_eq_true h2⟩
def a_os (o : Option (aN × Int)) (d : Int) : Option (aN × Int) := match o with
  | none => none
  | some (n, c) => some (n, c + d)
theorem a_os_ok {σ : aN → Int} {o : Option (aN × Int)} {d z : Int} (h : ∀ n c, o = some (n, c) → z = σ n + c) : ∀ n c, a_os o d = some (n, c) → z + d = σ n + c := by
  intro n c e
  cases o with
  | none => cases e
  | some q =>
    obtain ⟨m, b⟩ := q
    have h1 := h m b rfl
    cases e
    omega
def a_sum (ox oy : Option (aN × Int)) (bx bY : Int × Int) : aV := cond (a_in (bx.1 + bY.1, bx.2 + bY.2)) (0, bx.1 + bY.1, bx.2 + bY.2, cond (decide (bY.1 = bY.2)) (a_os ox bY.1) (cond (decide (bx.1 = bx.2)) (a_os oy bx.1) none), [], []) a_top
theorem a_sum_ok {σ : aN → Int} {a b : aV} {E : aF} {x y : Int32} (hE : a_f σ E) (hx : a_i σ a x) (hy : a_i σ b y) : a_i σ (a_sum a.2.2.2.1 b.2.2.2.1 (a_bd E a) (a_bd E b)) (x + y) := by
  have h1 := a_bd_ok hE hx
  have h2 := a_bd_ok hE hy
  unfold a_sum
  cases hc : a_in ((a_bd E a).1 + (a_bd E b).1, (a_bd E a).2 + (a_bd E b).2) with
  | false => exact a_top_ok _
  | true =>
    obtain ⟨c1, c2⟩ := a_in_ok hc
    dsimp only at c1 c2
    have e : (x + y).toInt = x.toInt + y.toInt := ar_add (by omega) (by omega)
    refine ⟨(by dsimp only [cond_true]; omega), (by dsimp only [cond_true]; omega), ?_, fun _ q hq => (by cases hq), fun _ q hq => (by cases hq)⟩
    dsimp only [cond_true]
    rw [e]
    cases hd : decide ((a_bd E b).1 = (a_bd E b).2) with
    | true =>
      have hd := of_decide_eq_true hd
      have ey : y.toInt = (a_bd E b).1 := by omega
      rw [ey]
      exact a_os_ok hx.2.2.1
    | false =>
      cases hd2 : decide ((a_bd E a).1 = (a_bd E a).2) with
      | true =>
        have hd2 := of_decide_eq_true hd2
        have ex : x.toInt = (a_bd E a).1 := by omega
        rw [ex, Int.add_comm]
        exact a_os_ok hy.2.2.1
      | false => intro n c z; cases z
def a_dif (ox : Option (aN × Int)) (bx bY : Int × Int) : aV := cond (a_in (bx.1 - bY.2, bx.2 - bY.1)) (0, bx.1 - bY.2, bx.2 - bY.1, cond (decide (bY.1 = bY.2)) (a_os ox (-bY.1)) none, [], []) a_top
theorem a_dif_ok {σ : aN → Int} {a b : aV} {E : aF} {x y : Int32} (hE : a_f σ E) (hx : a_i σ a x) (hy : a_i σ b y) : a_i σ (a_dif a.2.2.2.1 (a_bd E a) (a_bd E b)) (x - y) := by
  have h1 := a_bd_ok hE hx
  have h2 := a_bd_ok hE hy
  unfold a_dif
  cases hc : a_in ((a_bd E a).1 - (a_bd E b).2, (a_bd E a).2 - (a_bd E b).1) with
  | false => exact a_top_ok _
  | true =>
    obtain ⟨c1, c2⟩ := a_in_ok hc
    dsimp only at c1 c2
    have e : (x - y).toInt = x.toInt - y.toInt := ar_sub (by omega) (by omega)
    refine ⟨(by dsimp only [cond_true]; omega), (by dsimp only [cond_true]; omega), ?_, fun _ q hq => (by cases hq), fun _ q hq => (by cases hq)⟩
    dsimp only [cond_true]
    rw [e]
    cases hd : decide ((a_bd E b).1 = (a_bd E b).2) with
    | true =>
      have hd := of_decide_eq_true hd
      have ey : x.toInt - y.toInt = x.toInt + -(a_bd E b).1 := by omega
      rw [ey]
      exact a_os_ok hx.2.2.1
    | false => intro n c z; cases z
def a_prd (bx bY : Int × Int) : aV := cond (decide (0 ≤ bx.1) && (decide (0 ≤ bY.1) && decide (bx.2 * bY.2 ≤ 2147483647))) (a_I (bx.1 * bY.1) (bx.2 * bY.2)) a_top
theorem a_prd_ok {σ : aN → Int} {a b : aV} {E : aF} {x y : Int32} (hE : a_f σ E) (hx : a_i σ a x) (hy : a_i σ b y) : a_i σ (a_prd (a_bd E a) (a_bd E b)) (x * y) := by
  have h1 := a_bd_ok hE hx
  have h2 := a_bd_ok hE hy
  unfold a_prd
  cases hc : (decide (0 ≤ (a_bd E a).1) && (decide (0 ≤ (a_bd E b).1) && decide ((a_bd E a).2 * (a_bd E b).2 ≤ 2147483647))) with
  | false => exact a_top_ok _
  | true =>
    obtain ⟨c1, c2⟩ := xw_bb hc
    obtain ⟨c2, c3⟩ := xw_bb c2
    have c1 := of_decide_eq_true c1
    have c2 := of_decide_eq_true c2
    have c3 := of_decide_eq_true c3
    have m1 : (a_bd E a).1 * (a_bd E b).1 ≤ x.toInt * y.toInt := Int.mul_le_mul h1.1 h2.1 c2 (by omega)
    have m2 : x.toInt * y.toInt ≤ (a_bd E a).2 * (a_bd E b).2 := Int.mul_le_mul h1.2 h2.2 (by omega) (by omega)
    have m3 : 0 ≤ (a_bd E a).1 * (a_bd E b).1 := Int.mul_nonneg c1 c2
    have e : (x * y).toInt = x.toInt * y.toInt := ar_mul (by omega) (by omega)
    exact a_I_ok (by omega) (by omega)
def a_and (bx bY : Int × Int) : aV := cond (decide (0 ≤ bY.1)) (cond (decide (0 ≤ bx.1)) (a_I 0 (min bx.2 bY.2)) (a_I 0 bY.2)) (cond (decide (0 ≤ bx.1)) (a_I 0 bx.2) a_top)
theorem a_and_ok {σ : aN → Int} {a b : aV} {E : aF} {x y : Int32} (hE : a_f σ E) (hx : a_i σ a x) (hy : a_i σ b y) : a_i σ (a_and (a_bd E a) (a_bd E b)) (x &&& y) := by
  have h1 := a_bd_ok hE hx
  have h2 := a_bd_ok hE hy
  unfold a_and
  cases hy1 : decide (0 ≤ (a_bd E b).1) with
  | true =>
    have hy1 := of_decide_eq_true hy1
    have q1 := ar_and1 (x := x) (y := y) (by omega)
    cases hx1 : decide (0 ≤ (a_bd E a).1) with
    | true =>
      have hx1 := of_decide_eq_true hx1
      have q2 := ar_and2 (x := x) (y := y) (by omega)
      exact a_I_ok (by omega) (by omega)
    | false => exact a_I_ok (by omega) (by omega)
  | false =>
    cases hx1 : decide (0 ≤ (a_bd E a).1) with
    | true =>
      have hx1 := of_decide_eq_true hx1
      have q2 := ar_and2 (x := x) (y := y) (by omega)
      exact a_I_ok (by omega) (by omega)
    | false => exact a_top_ok _
/-- what holds if a value is not 0 -/
def a_nz (E : aF) (a : aV) : aF := a.2.2.2.2.1 ++ (match a.2.2.2.1 with
  | some (n, c) => cond (decide (0 ≤ (a_bd E a).1)) [(n, max (a_bd E a).1 1 - c, (a_bd E a).2 - c)] []
  | none => [])
theorem a_nz_ok {σ : aN → Int} {E : aF} {a : aV} {x : Int32} (hE : a_f σ E) (hx : a_i σ a x) (hz : x ≠ 0) : a_f σ (a_nz E a) := by
  have hb := a_bd_ok hE hx
  intro q hq
  rcases List.mem_append.mp hq with hq | hq
  · exact hx.2.2.2.1 hz q hq
  · split at hq
    · rename_i n c e
      have h3 := hx.2.2.1 n c e
      cases hd : decide (0 ≤ (a_bd E a).1) with
      | false => rw [hd] at hq; cases hq
      | true =>
        rw [hd] at hq
        have hd := of_decide_eq_true hd
        simp only [cond_true, List.mem_singleton] at hq
        subst hq
        dsimp only
        have h0 : x.toInt ≠ 0 := fun e0 => hz (Int32.toInt_inj.mp e0)
        omega
    · cases hq
def a_wf (a : aV) (F : aF) : aV := (a.1, a.2.1, a.2.2.1, a.2.2.2.1, F, a.2.2.2.2.2)
theorem a_wf_ok {σ : aN → Int} {a : aV} {F : aF} {x : Int32} (hx : a_i σ a x) (hF : x ≠ 0 → a_f σ F) : a_i σ (a_wf a F) x := ⟨hx.1, hx.2.1, hx.2.2.1, hF, hx.2.2.2.2⟩
theorem a_f_app {σ : aN → Int} {F G : aF} (h1 : a_f σ F) (h2 : a_f σ G) : a_f σ (F ++ G) := fun q hq => (List.mem_append.mp hq).elim (h1 q) (h2 q)
theorem a_and_nz {x y : Int32} (h : x &&& y ≠ 0) : x ≠ 0 ∧ y ≠ 0 := by
  constructor
  · intro e
    subst e
    exact h (Int32.zero_and)
  · intro e
    subst e
    exact h (Int32.and_zero)
theorem a_shr_nz {x y : Int32} (h : x >>> y ≠ 0) : x ≠ 0 := by
  intro e
  subst e
  exact h (Int32.zero_shiftRight)
def a_lg (z : Int) : Nat := Nat.log2 z.toNat + 1
theorem a_lg_ok {z : Int} : z < ((2 ^ a_lg z : Nat) : Int) := by
  have h : z.toNat < 2 ^ (Nat.log2 z.toNat + 1) := Nat.lt_log2_self
  unfold a_lg
  omega
def a_or (bx bY : Int × Int) : aV := cond (decide (0 ≤ bx.1) && (decide (0 ≤ bY.1) && Nat.ble (a_lg (max bx.2 bY.2)) 31)) (a_I 0 (((2 ^ a_lg (max bx.2 bY.2) : Nat) : Int) - 1)) a_top
theorem a_or_ok {σ : aN → Int} {a b : aV} {E : aF} {x y : Int32} (hE : a_f σ E) (hx : a_i σ a x) (hy : a_i σ b y) : a_i σ (a_or (a_bd E a) (a_bd E b)) (x ||| y) ∧ a_i σ (a_or (a_bd E a) (a_bd E b)) (x ^^^ y) := by
  have h1 := a_bd_ok hE hx
  have h2 := a_bd_ok hE hy
  unfold a_or
  cases hc : (decide (0 ≤ (a_bd E a).1) && (decide (0 ≤ (a_bd E b).1) && Nat.ble (a_lg (max (a_bd E a).2 (a_bd E b).2)) 31)) with
  | false => exact ⟨a_top_ok _, a_top_ok _⟩
  | true =>
    obtain ⟨c1, c2⟩ := xw_bb hc
    obtain ⟨c2, c3⟩ := xw_bb c2
    have c1 := of_decide_eq_true c1
    have c2 := of_decide_eq_true c2
    have c3 := xw_ble c3
    have l := a_lg_ok (z := max (a_bd E a).2 (a_bd E b).2)
    have q1 := ar_or (x := x) (y := y) c3 (by omega) (by omega) (by omega) (by omega)
    have q2 := ar_xor (x := x) (y := y) c3 (by omega) (by omega) (by omega) (by omega)
    exact ⟨a_I_ok (by omega) (by omega), a_I_ok (by omega) (by omega)⟩
def a_shl (bx bY : Int × Int) : aV := cond (decide (0 ≤ bx.1) && (decide (0 ≤ bY.1) && (decide (bY.2 ≤ 31) && decide (bx.2 * ((2 ^ bY.2.toNat : Nat) : Int) ≤ 2147483647)))) (a_I (bx.1 * ((2 ^ bY.1.toNat : Nat) : Int)) (bx.2 * ((2 ^ bY.2.toNat : Nat) : Int))) a_top
theorem a_nIx {y : Int32} (h1 : 0 ≤ y.toInt) : y = nI y.toInt.toNat ∧ y.toInt.toNat < 2 ^ 31 := by
  obtain ⟨j, hj, e⟩ := nI_of (x := y) (by rw [Int32.lt_iff_toInt_lt]; show ¬ y.toInt < 0; omega)
  have e2 := nI_toInt hj
  subst e
  rw [e2]
  exact ⟨rfl, hj⟩
theorem a_pw {i j : Nat} (h : i ≤ j) : ((2 ^ i : Nat) : Int) ≤ ((2 ^ j : Nat) : Int) := by
  have := Nat.pow_le_pow_right (n := 2) (by decide) h
  exact Int.ofNat_le.mpr this
theorem a_pp (i : Nat) : (1 : Int) ≤ ((2 ^ i : Nat) : Int) := by
  have : 0 < 2 ^ i := Nat.two_pow_pos i
  omega
theorem a_shl_ok {σ : aN → Int} {a b : aV} {E : aF} {x y : Int32} (hE : a_f σ E) (hx : a_i σ a x) (hy : a_i σ b y) : a_i σ (a_shl (a_bd E a) (a_bd E b)) (x <<< (y &&& 31)) := by
  have h1 := a_bd_ok hE hx
  have h2 := a_bd_ok hE hy
  unfold a_shl
  cases hc : (decide (0 ≤ (a_bd E a).1) && (decide (0 ≤ (a_bd E b).1) && (decide ((a_bd E b).2 ≤ 31) && decide ((a_bd E a).2 * ((2 ^ (a_bd E b).2.toNat : Nat) : Int) ≤ 2147483647)))) with
  | false => exact a_top_ok _
  | true =>
    obtain ⟨c1, c2⟩ := xw_bb hc
    obtain ⟨c2, c3⟩ := xw_bb c2
    obtain ⟨c3, c4⟩ := xw_bb c3
    have c1 := of_decide_eq_true c1
    have c2 := of_decide_eq_true c2
    have c3 := of_decide_eq_true c3
    have c4 := of_decide_eq_true c4
    obtain ⟨e, -⟩ := a_nIx (y := y) (by omega)
    have p1 := a_pw (i := (a_bd E b).1.toNat) (j := y.toInt.toNat) (by omega)
    have p2 := a_pw (i := y.toInt.toNat) (j := (a_bd E b).2.toNat) (by omega)
    have p0 := a_pp (a_bd E b).1.toNat
    have m1 : (a_bd E a).1 * ((2 ^ (a_bd E b).1.toNat : Nat) : Int) ≤ x.toInt * ((2 ^ y.toInt.toNat : Nat) : Int) := Int.mul_le_mul h1.1 p1 (by omega) (by omega)
    have m2 : x.toInt * ((2 ^ y.toInt.toNat : Nat) : Int) ≤ (a_bd E a).2 * ((2 ^ (a_bd E b).2.toNat : Nat) : Int) := Int.mul_le_mul h1.2 p2 (by omega) (by omega)
    have q := ar_shl (x := x) (k := y.toInt.toNat) (by omega) (by omega) (by omega)
    rw [← e] at q
    exact a_I_ok (by omega) (by omega)
def a_shr (bx bY : Int × Int) : aV := cond (decide (0 ≤ bY.1) && decide (bY.2 ≤ 31)) (cond (decide (0 ≤ bx.1)) (a_I 0 (bx.2 / ((2 ^ bY.1.toNat : Nat) : Int))) (a_I bx.1 (max bx.2 0))) a_top
theorem a_shr_ok {σ : aN → Int} {a b : aV} {E : aF} {x y : Int32} (hE : a_f σ E) (hx : a_i σ a x) (hy : a_i σ b y) : a_i σ (a_shr (a_bd E a) (a_bd E b)) (x >>> (y &&& 31)) := by
  have h1 := a_bd_ok hE hx
  have h2 := a_bd_ok hE hy
  unfold a_shr
  cases hc : (decide (0 ≤ (a_bd E b).1) && decide ((a_bd E b).2 ≤ 31)) with
  | false => exact a_top_ok _
  | true =>
    obtain ⟨c2, c3⟩ := xw_bb hc
    have c2 := of_decide_eq_true c2
    have c3 := of_decide_eq_true c3
    obtain ⟨e, -⟩ := a_nIx (y := y) (by omega)
    have q := ar_shr (x := x) (k := y.toInt.toNat) (by omega)
    rw [← e] at q
    have p0 := a_pp y.toInt.toNat
    have p1 := a_pw (i := (a_bd E b).1.toNat) (j := y.toInt.toNat) (by omega)
    have p2 := a_pp (a_bd E b).1.toNat
    cases hx1 : decide (0 ≤ (a_bd E a).1) with
    | true =>
      have hx1 := of_decide_eq_true hx1
      refine a_I_ok ?_ ?_
      · rw [q]; exact Int.ediv_nonneg (by omega) (by omega)
      · rw [q]
        refine Int.le_trans (b := x.toInt / ((2 ^ (a_bd E b).1.toNat : Nat) : Int)) ?_ (Int.ediv_le_ediv (by omega) h1.2)
        exact Int.le_ediv_of_mul_le (by omega) (Int.le_trans (Int.mul_le_mul_of_nonneg_left p1 (Int.ediv_nonneg (by omega) (by omega))) (Int.ediv_mul_le _ (by omega)))
    | false =>
      refine a_I_ok ?_ ?_
      · rw [q]
        by_cases hn : 0 ≤ x.toInt
        · have : 0 ≤ x.toInt / ((2 ^ y.toInt.toNat : Nat) : Int) := Int.ediv_nonneg hn (by omega)
          have hf := of_decide_eq_false hx1
          omega
        · refine Int.le_trans h1.1 (Int.le_ediv_of_mul_le (by omega) ?_)
          have : x.toInt * ((2 ^ y.toInt.toNat : Nat) : Int) ≤ x.toInt * 1 := Int.mul_le_mul_of_nonpos_left (by omega) p0
          omega
      · rw [q]
        by_cases hn : 0 ≤ x.toInt
        · have : x.toInt / ((2 ^ y.toInt.toNat : Nat) : Int) ≤ x.toInt := Int.ediv_le_self _ hn
          omega
        · have : x.toInt / ((2 ^ y.toInt.toNat : Nat) : Int) < 0 := Int.ediv_neg_of_neg_of_pos (by omega) (by omega)
          omega
end XAO
