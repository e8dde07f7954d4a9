section XAB
/-- a name: (0, i) local i at a block's head; (0, 100 + i) argument i; (c + 1, k) field k of cell c at the head -/
abbrev aN : Type := Nat × Nat
/-- facts: a name's bounds -/
abbrev aF : Type := List (aN × Int × Int)
/-- an abstract value: kind (0 int, 1 long, 2 reference, 3 reference or null, 4 what is not ours), bounds (or the kind of cell), which name plus what, what holds if it is not 0, if it is 0 -/
abbrev aV : Type := Nat × Int × Int × Option (aN × Int) × aF × aF
/-- an abstract frame: locals, stack, facts, fields -/
abbrev aS : Type := List (Nat × aV) × List aV × aF × List (aN × aV)
/-- a cell's kind: of the first 72 each its own; behind them statutes (as cell 11) and their bits (as cell 12) by turns -/
def a_tg (q : Nat) : Nat := cond (Nat.blt q 72) q (cond (Nat.beq (q % 2) 0) 11 12)
def a_f (σ : aN → Int) (F : aF) : Prop := ∀ q ∈ F, q.2.1 ≤ σ q.1 ∧ σ q.1 ≤ q.2.2
def a_i (σ : aN → Int) (a : aV) (x : Int32) : Prop := a.2.1 ≤ x.toInt ∧ x.toInt ≤ a.2.2.1 ∧ (∀ n c, a.2.2.2.1 = some (n, c) → x.toInt = σ n + c) ∧ (x ≠ 0 → a_f σ a.2.2.2.2.1) ∧ (x = 0 → a_f σ a.2.2.2.2.2)
def a_r (n t q : Nat) : Prop := q < n ∧ a_tg q = t
def a_v (σ : aN → Int) (n : Nat) (a : aV) (v : Value) : Prop := match a.1 with
  | 0 => ∃ x, v = .int x ∧ a_i σ a x
  | 1 => ∃ x : Int64, v = .long x ∧ a.2.1 ≤ x.toInt ∧ x.toInt ≤ a.2.2.1
  | 2 => ∃ q, v = .ref q ∧ a_r n a.2.1.toNat q
  | 3 => v = .null ∨ ∃ q, v = .ref q ∧ a_r n a.2.1.toNat q
  | _ => v = .float (UInt32.ofNat a.2.1.toNat)
def a_st (σ : aN → Int) (n : Nat) : List aV → List Value → Prop
  | [], [] => True
  | a :: A, v :: V => a_v σ n a v ∧ a_st σ n A V
  | _, _ => False
def a_nq (a b : aN) : Bool := Nat.beq a.1 b.1 && Nat.beq a.2 b.2
theorem a_nq_ok {a b : aN} (h : a_nq a b = true) : a = b := by
  obtain ⟨h1, h2⟩ := xw_bb h
  exact Prod.ext (xw_beq h1) (xw_beq h2)
theorem a_nq_no {a b : aN} (h : a_nq a b = false) : a ≠ b := by
  intro e
  subst e
  unfold a_nq at h
  rw [Nat.beq_refl, Nat.beq_refl] at h
  cases h
def a_fd : aF → aN → Option (Int × Int)
  | [], _ => none
  | q :: t, n => cond (a_nq q.1 n) (some q.2) (a_fd t n)
theorem a_fd_ok {σ : aN → Int} {n : aN} {p : Int × Int} : ∀ {E : aF}, a_f σ E → a_fd E n = some p → p.1 ≤ σ n ∧ σ n ≤ p.2 := by
  intro E
  induction E with
  | nil => intro _ h; cases h
  | cons q t ih =>
    intro hE h
    unfold a_fd at h
    cases hb : a_nq q.1 n with
    | true =>
      rw [hb] at h
      cases h
      have e := a_nq_ok hb
      subst e
      exact hE q List.mem_cons_self
    | false =>
      rw [hb] at h
      exact ih (fun q hq => hE q (List.mem_cons_of_mem _ hq)) h
/-- bounds of a value, by what is known of its name -/
def a_bd (E : aF) (a : aV) : Int × Int := match a.2.2.2.1 with
  | none => (a.2.1, a.2.2.1)
  | some (n, c) => (match a_fd E n with
    | none => (a.2.1, a.2.2.1)
    | some (l, h) => (max a.2.1 (l + c), min a.2.2.1 (h + c)))
theorem a_bd_ok {σ : aN → Int} {E : aF} {a : aV} {x : Int32} (hE : a_f σ E) (h : a_i σ a x) : (a_bd E a).1 ≤ x.toInt ∧ x.toInt ≤ (a_bd E a).2 := by
  obtain ⟨h1, h2, h3, -⟩ := h
  unfold a_bd
  split
  · exact ⟨h1, h2⟩
  · rename_i n c e
    split
    · exact ⟨h1, h2⟩
    · rename_i l hh e2
      have h4 := a_fd_ok hE e2
      have h5 := h3 n c e
      dsimp only at h4 ⊢
      omega
/-- one fact more -/
def a_ad (E : aF) (q : aN × Int × Int) : aF := match a_fd E q.1 with
  | none => q :: E
  | some (l, h) => (q.1, max l q.2.1, min h q.2.2) :: E
theorem a_ad_ok {σ : aN → Int} {E : aF} {q : aN × Int × Int} (hE : a_f σ E) (h : q.2.1 ≤ σ q.1 ∧ σ q.1 ≤ q.2.2) : a_f σ (a_ad E q) := by
  unfold a_ad
  split
  · intro p hp
    rcases List.mem_cons.mp hp with rfl | hp
    · exact h
    · exact hE p hp
  · rename_i l hh e
    have h4 := a_fd_ok hE e
    intro p hp
    rcases List.mem_cons.mp hp with rfl | hp
    · dsimp only at h4 ⊢
      omega
    · exact hE p hp
def a_ads : aF → aF → aF
  | E, [] => E
  | E, q :: t => a_ads (a_ad E q) t
theorem a_ads_ok {σ : aN → Int} : ∀ {F E : aF}, a_f σ E → a_f σ F → a_f σ (a_ads E F) := by
  intro F
  induction F with
  | nil => intro E hE _; exact hE
  | cons q t ih =>
    intro E hE hF
    exact ih (a_ad_ok hE (hF q List.mem_cons_self)) (fun p hp => hF p (List.mem_cons_of_mem _ hp))
/-- a value is found between two numbers -/
def a_rf (E : aF) (a : aV) (lo hi : Int) : Option aF :=
  cond (decide (min (a_bd E a).2 hi < max (a_bd E a).1 lo)) none
    (some (a_ads (match a.2.2.2.1 with
      | none => E
      | some (n, c) => a_ad E (n, max (a_bd E a).1 lo - c, min (a_bd E a).2 hi - c))
      (cond (decide (0 < max (a_bd E a).1 lo) || decide (min (a_bd E a).2 hi < 0)) a.2.2.2.2.1
        (cond (decide (0 ≤ max (a_bd E a).1 lo) && decide (min (a_bd E a).2 hi ≤ 0)) a.2.2.2.2.2 []))))
theorem a_rf_ok {σ : aN → Int} {E : aF} {a : aV} {x : Int32} {lo hi : Int} (hE : a_f σ E) (h : a_i σ a x) (h1 : lo ≤ x.toInt) (h2 : x.toInt ≤ hi) : ∃ E', a_rf E a lo hi = some E' ∧ a_f σ E' := by
  have hb := a_bd_ok hE h
  obtain ⟨-, -, h3, h4, h5⟩ := h
  unfold a_rf
  have hn : decide (min (a_bd E a).2 hi < max (a_bd E a).1 lo) = false := by
    rw [decide_eq_false_iff_not]
    omega
  rw [hn]
  refine ⟨_, rfl, a_ads_ok ?_ ?_⟩
  · split
    · exact hE
    · rename_i n c e
      have h6 := h3 n c e
      refine a_ad_ok hE ?_
      dsimp only
      omega
  · cases hc : (decide (0 < max (a_bd E a).1 lo) || decide (min (a_bd E a).2 hi < 0)) with
    | true =>
      refine h4 (fun e => ?_)
      rw [e] at hb h1 h2
      rw [Bool.or_eq_true, decide_eq_true_eq, decide_eq_true_eq] at hc
      have e0 : (0 : Int32).toInt = 0 := rfl
      omega
    | false =>
      cases hd : (decide (0 ≤ max (a_bd E a).1 lo) && decide (min (a_bd E a).2 hi ≤ 0)) with
      | true =>
        refine h5 ?_
        rw [Bool.and_eq_true, decide_eq_true_eq, decide_eq_true_eq] at hd
        have e0 : (0 : Int32).toInt = 0 := rfl
        exact Int32.toInt_inj.mp (by omega)
      | false => intro q hq; cases hq
/-- what a comparison tells: bounds for the one and for the other -/
def a_cb (k : ClassFile.Cond) (x y : Int × Int) : (Int × Int) × (Int × Int) := match k with
  | .eq => (y, x)
  | .ne => ((cond (decide (y.1 = y.2) && decide (x.1 = y.1)) (x.1 + 1) x.1, cond (decide (y.1 = y.2) && decide (x.2 = y.1)) (x.2 - 1) x.2), y)
  | .lt => ((x.1, y.2 - 1), (x.1 + 1, y.2))
  | .ge => ((y.1, x.2), (y.1, x.2))
  | .gt => ((y.1 + 1, x.2), (y.1, x.2 - 1))
  | .le => ((x.1, y.2), (x.1, y.2))
theorem a_ce {k : ClassFile.Cond} {x y : Int32} (z : xe_c k x y = true) : match k with
  | .eq => x.toInt = y.toInt
  | .ne => x.toInt ≠ y.toInt
  | .lt => x.toInt < y.toInt
  | .ge => y.toInt ≤ x.toInt
  | .gt => y.toInt < x.toInt
  | .le => x.toInt ≤ y.toInt := by
  cases k
  · have h := of_decide_eq_true z
    exact congrArg Int32.toInt h
  · intro e
    have h := Int32.toInt_inj.mp e
    unfold xe_c at z
    simp [h] at z
  · exact Int32.lt_iff_toInt_lt.mp (of_decide_eq_true z)
  · exact Int32.le_iff_toInt_le.mp (of_decide_eq_true z)
  · exact Int32.lt_iff_toInt_lt.mp (of_decide_eq_true z)
  · exact Int32.le_iff_toInt_le.mp (of_decide_eq_true z)
theorem a_cb_ok {k : ClassFile.Cond} {x y : Int32} {p q : Int × Int} (z : xe_c k x y = true) (hx : p.1 ≤ x.toInt ∧ x.toInt ≤ p.2) (hy : q.1 ≤ y.toInt ∧ y.toInt ≤ q.2) : ((a_cb k p q).1.1 ≤ x.toInt ∧ x.toInt ≤ (a_cb k p q).1.2) ∧ ((a_cb k p q).2.1 ≤ y.toInt ∧ y.toInt ≤ (a_cb k p q).2.2) := by
  have h := a_ce z
  cases k
  · dsimp only at h
    simp only [a_cb]
    omega
  · dsimp only at h
    simp only [a_cb]
    refine ⟨⟨?_, ?_⟩, hy⟩
    · cases hc : (decide (q.1 = q.2) && decide (p.1 = q.1)) with
      | true =>
        rw [Bool.and_eq_true, decide_eq_true_eq, decide_eq_true_eq] at hc
        simp only [cond_true]
        omega
      | false => exact hx.1
    · cases hc : (decide (q.1 = q.2) && decide (p.2 = q.1)) with
      | true =>
        rw [Bool.and_eq_true, decide_eq_true_eq, decide_eq_true_eq] at hc
        simp only [cond_true]
        omega
      | false => exact hx.2
  all_goals
    dsimp only at h
    simp only [a_cb]
    omega
def a_neg (k : ClassFile.Cond) : ClassFile.Cond := match k with
  | .eq => .ne
  | .ne => .eq
  | .lt => .ge
  | .ge => .lt
  | .gt => .le
  | .le => .gt
theorem a_neg_ok {k : ClassFile.Cond} {x y : Int32} (z : xe_c k x y = false) : xe_c (a_neg k) x y = true := by
  cases k
  · have z : decide (x = y) = false := z
    show (!decide (x = y)) = true
    rw [z]; rfl
  · have z : (!decide (x = y)) = false := z
    show decide (x = y) = true
    cases h : decide (x = y) with
    | true => rfl
    | false => rw [h] at z; cases z
  · have h := of_decide_eq_false z
    exact decide_eq_true (by rw [Int32.lt_iff_toInt_lt] at h; rw [Int32.le_iff_toInt_le]; omega)
  · have h := of_decide_eq_false z
    exact decide_eq_true (by rw [Int32.le_iff_toInt_le] at h; rw [Int32.lt_iff_toInt_lt]; omega)
  · have h := of_decide_eq_false z
    exact decide_eq_true (by rw [Int32.lt_iff_toInt_lt] at h; rw [Int32.le_iff_toInt_le]; omega)
  · have h := of_decide_eq_false z
    exact decide_eq_true (by rw [Int32.le_iff_toInt_le] at h; rw [Int32.lt_iff_toInt_lt]; omega)
/-- the facts where a comparison holds (none: it can't) -/
def a_cmp (k : ClassFile.Cond) (E : aF) (x y : aV) : Option aF := match a_rf E x (a_cb k (a_bd E x) (a_bd E y)).1.1 (a_cb k (a_bd E x) (a_bd E y)).1.2 with
  | none => none
  | some E1 => a_rf E1 y (a_cb k (a_bd E x) (a_bd E y)).2.1 (a_cb k (a_bd E x) (a_bd E y)).2.2
theorem a_cmp_ok {σ : aN → Int} {k : ClassFile.Cond} {E : aF} {a b : aV} {x y : Int32} (hE : a_f σ E) (hx : a_i σ a x) (hy : a_i σ b y) (z : xe_c k x y = true) : ∃ E', a_cmp k E a b = some E' ∧ a_f σ E' := by
  obtain ⟨c1, c2⟩ := a_cb_ok z (a_bd_ok hE hx) (a_bd_ok hE hy)
  obtain ⟨E1, h1, h2⟩ := a_rf_ok hE hx c1.1 c1.2
  obtain ⟨E2, h3, h4⟩ := a_rf_ok h2 hy c2.1 c2.2
  refine ⟨E2, ?_, h4⟩
  unfold a_cmp
  rw [h1]
  exact h3
end XAB
