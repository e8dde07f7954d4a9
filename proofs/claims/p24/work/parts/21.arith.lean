section
section XAR
theorem bm_id {z : Int} (h1 : -2147483648 ≤ z) (h2 : z ≤ 2147483647) : z.bmod (2 ^ 32) = z := by
  simp only [Int.bmod]
  split <;> omega
theorem ar_rng (x : Int32) : -2147483648 ≤ x.toInt ∧ x.toInt ≤ 2147483647 := by
  have h1 := x.le_toInt
  have h2 := x.toInt_lt
  omega
theorem ar_add {x y : Int32} (h1 : -2147483648 ≤ x.toInt + y.toInt) (h2 : x.toInt + y.toInt ≤ 2147483647) : (x + y).toInt = x.toInt + y.toInt := by
  rw [Int32.toInt_add]
  exact bm_id h1 h2
theorem ar_sub {x y : Int32} (h1 : -2147483648 ≤ x.toInt - y.toInt) (h2 : x.toInt - y.toInt ≤ 2147483647) : (x - y).toInt = x.toInt - y.toInt := by
  rw [Int32.toInt_sub]
  exact bm_id h1 h2
theorem ar_mul {x y : Int32} (h1 : -2147483648 ≤ x.toInt * y.toInt) (h2 : x.toInt * y.toInt ≤ 2147483647) : (x * y).toInt = x.toInt * y.toInt := by
  rw [Int32.toInt_mul]
  exact bm_id h1 h2
theorem ar_nn {x : Int32} (h : 0 ≤ x.toInt) : x.toInt = (x.toBitVec.toNat : Int) ∧ x.toBitVec.toNat < 2147483648 := by
  have e : x.toInt = x.toBitVec.toInt := rfl
  have l := x.toBitVec.isLt
  rw [e, BitVec.toInt_eq_toNat_cond] at h
  rw [e, BitVec.toInt_eq_toNat_cond]
  split at h
  · rename_i h2
    rw [if_pos h2]
    exact ⟨rfl, by omega⟩
  · omega
theorem ar_of {x : Int32} (h : x.toBitVec.toNat < 2147483648) : x.toInt = (x.toBitVec.toNat : Int) := by
  have e : x.toInt = x.toBitVec.toInt := rfl
  rw [e, BitVec.toInt_eq_toNat_cond, if_pos (by omega)]
theorem ar_and1 {x y : Int32} (h : 0 ≤ y.toInt) : 0 ≤ (x &&& y).toInt ∧ (x &&& y).toInt ≤ y.toInt := by
  obtain ⟨e, l⟩ := ar_nn h
  have h1 : (x &&& y).toBitVec.toNat = x.toBitVec.toNat &&& y.toBitVec.toNat := BitVec.toNat_and ..
  have h2 : x.toBitVec.toNat &&& y.toBitVec.toNat ≤ y.toBitVec.toNat := Nat.and_le_right
  rw [ar_of (x := x &&& y) (by omega), e, h1]
  omega
theorem ar_and2 {x y : Int32} (h : 0 ≤ x.toInt) : 0 ≤ (x &&& y).toInt ∧ (x &&& y).toInt ≤ x.toInt := by
  obtain ⟨e, l⟩ := ar_nn h
  have h1 : (x &&& y).toBitVec.toNat = x.toBitVec.toNat &&& y.toBitVec.toNat := BitVec.toNat_and ..
  have h2 : x.toBitVec.toNat &&& y.toBitVec.toNat ≤ x.toBitVec.toNat := Nat.and_le_left
  rw [ar_of (x := x &&& y) (by omega), e, h1]
  omega
theorem ar_p31 {k : Nat} (hk : k ≤ 31) : 2 ^ k ≤ 2147483648 := Nat.pow_le_pow_right (by decide) hk
theorem ar_or {x y : Int32} {k : Nat} (hk : k ≤ 31) (hx : 0 ≤ x.toInt) (hy : 0 ≤ y.toInt) (hx2 : x.toInt < ((2 ^ k : Nat) : Int)) (hy2 : y.toInt < ((2 ^ k : Nat) : Int)) : 0 ≤ (x ||| y).toInt ∧ (x ||| y).toInt < ((2 ^ k : Nat) : Int) := by
  obtain ⟨e, l⟩ := ar_nn hx
  obtain ⟨e2, l2⟩ := ar_nn hy
  have hp := ar_p31 hk
  have h1 : (x ||| y).toBitVec.toNat = x.toBitVec.toNat ||| y.toBitVec.toNat := BitVec.toNat_or ..
  have h2 : x.toBitVec.toNat ||| y.toBitVec.toNat < 2 ^ k := Nat.or_lt_two_pow (by omega) (by omega)
  rw [ar_of (x := x ||| y) (by omega), h1]
  omega
theorem ar_xor {x y : Int32} {k : Nat} (hk : k ≤ 31) (hx : 0 ≤ x.toInt) (hy : 0 ≤ y.toInt) (hx2 : x.toInt < ((2 ^ k : Nat) : Int)) (hy2 : y.toInt < ((2 ^ k : Nat) : Int)) : 0 ≤ (x ^^^ y).toInt ∧ (x ^^^ y).toInt < ((2 ^ k : Nat) : Int) := by
  obtain ⟨e, l⟩ := ar_nn hx
  obtain ⟨e2, l2⟩ := ar_nn hy
  have hp := ar_p31 hk
  have h1 : (x ^^^ y).toBitVec.toNat = x.toBitVec.toNat ^^^ y.toBitVec.toNat := BitVec.toNat_xor ..
  have h2 : x.toBitVec.toNat ^^^ y.toBitVec.toNat < 2 ^ k := Nat.xor_lt_two_pow (by omega) (by omega)
  rw [ar_of (x := x ^^^ y) (by omega), h1]
  omega
theorem ar_sh : ∀ k, k < 32 → ((nI k &&& 31 : Int32).toBitVec.smod 32).toNat = k := by decide +kernel
theorem ar_shl {x : Int32} {k : Nat} (hk : k < 32) (hx : 0 ≤ x.toInt) (h : x.toInt * ((2 ^ k : Nat) : Int) ≤ 2147483647) : (x <<< (nI k &&& 31)).toInt = x.toInt * ((2 ^ k : Nat) : Int) := by
  obtain ⟨e, l⟩ := ar_nn hx
  have e1 : (x <<< (nI k &&& 31)).toBitVec = x.toBitVec <<< ((nI k &&& 31 : Int32).toBitVec.smod 32) := rfl
  have e2 : (x <<< (nI k &&& 31)).toBitVec.toNat = x.toBitVec.toNat * 2 ^ k % 2 ^ 32 := by
    rw [e1, BitVec.shiftLeft_eq', ar_sh k hk, BitVec.toNat_shiftLeft, Nat.shiftLeft_eq]
  rw [e] at h ⊢
  have h' : x.toBitVec.toNat * 2 ^ k ≤ 2147483647 := by
    have h2 : ((x.toBitVec.toNat * 2 ^ k : Nat) : Int) ≤ ((2147483647 : Nat) : Int) := by
      rw [Int.natCast_mul]
      exact h
    exact Int.ofNat_le.mp h2
  rw [Nat.mod_eq_of_lt (by omega)] at e2
  rw [ar_of (x := x <<< (nI k &&& 31)) (by omega), e2, Int.natCast_mul]
theorem ar_shr {x : Int32} {k : Nat} (hk : k < 32) : (x >>> (nI k &&& 31)).toInt = x.toInt / ((2 ^ k : Nat) : Int) := by
  have e1 : (x >>> (nI k &&& 31)).toBitVec = x.toBitVec.sshiftRight' ((nI k &&& 31 : Int32).toBitVec.smod 32) := rfl
  have e : (x >>> (nI k &&& 31)).toInt = (x >>> (nI k &&& 31)).toBitVec.toInt := rfl
  rw [e, e1, BitVec.sshiftRight', ar_sh k hk, BitVec.toInt_sshiftRight, Int.shiftRight_eq_div_pow]
  rfl
end XAR
end
section
section XAB
/-- a name: (0, i) local i at a block's head; (0, 100 + i) argument i; (c + 1, k) field k of cell c at the head -/
abbrev aN : Type := Nat × Nat
/-- facts: a name's bounds -/
abbrev aF : Type := List (aN × Int × Int)
/-- an abstract value: kind (0 int, 1 long, 2 reference, 3 reference or null, 4 what is not ours), bounds (or the kind of cell), which name plus what, what holds if it is not 0, if it is 0 -/
abbrev aV : Type := Nat × Int × Int × Option (aN × Int) × aF × aF
/-- an abstract frame: locals, stack, facts, fields -/
abbrev aS : Type := List (Nat × aV) × List aV × aF × List (aN × aV)
/-- a cell's kind: of the first 72 each its own; behind them statutes (as cell 11) and their bits (as cell 12) by turns -/
def a_tg (q : Nat) : Nat := cond (Nat.blt q 72) q (cond (Nat.beq (q % 2) 0) 11 12)
def a_f (σ : aN → Int) (F : aF) : Prop := ∀ q ∈ F, q.2.1 ≤ σ q.1 ∧ σ q.1 ≤ q.2.2
def a_i (σ : aN → Int) (a : aV) (x : Int32) : Prop := a.2.1 ≤ x.toInt ∧ x.toInt ≤ a.2.2.1 ∧ (∀ n c, a.2.2.2.1 = some (n, c) → x.toInt = σ n + c) ∧ (x ≠ 0 → a_f σ a.2.2.2.2.1) ∧ (x = 0 → a_f σ a.2.2.2.2.2)
def a_r (n t q : Nat) : Prop := q < n ∧ a_tg q = t
def a_v (σ : aN → Int) (n : Nat) (a : aV) (v : Value) : Prop := match a.1 with
  | 0 => ∃ x, v = .int x ∧ a_i σ a x
  | 1 => ∃ x : Int64, v = .long x ∧ a.2.1 ≤ x.toInt ∧ x.toInt ≤ a.2.2.1
  | 2 => ∃ q, v = .ref q ∧ a_r n a.2.1.toNat q
  | 3 => v = .null ∨ ∃ q, v = .ref q ∧ a_r n a.2.1.toNat q
  | _ => v = .float (UInt32.ofNat a.2.1.toNat)
def a_st (σ : aN → Int) (n : Nat) : List aV → List Value → Prop
  | [], [] => True
  | a :: A, v :: V => a_v σ n a v ∧ a_st σ n A V
  | _, _ => False
def a_nq (a b : aN) : Bool := Nat.beq a.1 b.1 && Nat.beq a.2 b.2
theorem a_nq_ok {a b : aN} (h : a_nq a b = true) : a = b := by
  obtain ⟨h1, h2⟩ := xw_bb h
  exact Prod.ext (xw_beq h1) (xw_beq h2)
theorem a_nq_no {a b : aN} (h : a_nq a b = false) : a ≠ b := by
  intro e
  subst e
  unfold a_nq at h
  rw [Nat.beq_refl, Nat.beq_refl] at h
  cases h
def a_fd : aF → aN → Option (Int × Int)
  | [], _ => none
  | q :: t, n => cond (a_nq q.1 n) (some q.2) (a_fd t n)
theorem a_fd_ok {σ : aN → Int} {n : aN} {p : Int × Int} : ∀ {E : aF}, a_f σ E → a_fd E n = some p → p.1 ≤ σ n ∧ σ n ≤ p.2 := by
  intro E
  induction E with
  | nil => intro _ h; cases h
  | cons q t ih =>
    intro hE h
    unfold a_fd at h
    cases hb : a_nq q.1 n with
    | true =>
      rw [hb] at h
      cases h
      have e := a_nq_ok hb
      subst e
      exact hE q List.mem_cons_self
    | false =>
      rw [hb] at h
      exact ih (fun q hq => hE q (List.mem_cons_of_mem _ hq)) h
/-- bounds of a value, by what is known of its name -/
def a_bd (E : aF) (a : aV) : Int × Int := match a.2.2.2.1 with
  | none => (a.2.1, a.2.2.1)
  | some (n, c) => (match a_fd E n with
    | none => (a.2.1, a.2.2.1)
    | some (l, h) => (max a.2.1 (l + c), min a.2.2.1 (h + c)))
theorem a_bd_ok {σ : aN → Int} {E : aF} {a : aV} {x : Int32} (hE : a_f σ E) (h : a_i σ a x) : (a_bd E a).1 ≤ x.toInt ∧ x.toInt ≤ (a_bd E a).2 := by
  obtain ⟨h1, h2, h3, -⟩ := h
  unfold a_bd
  split
  · exact ⟨h1, h2⟩
  · rename_i n c e
    split
    · exact ⟨h1, h2⟩
    · rename_i l hh e2
      have h4 := a_fd_ok hE e2
      have h5 := h3 n c e
      dsimp only at h4 ⊢
      omega
/-- one fact more -/
def a_ad (E : aF) (q : aN × Int × Int) : aF := match a_fd E q.1 with
  | none => q :: E
  | some (l, h) => (q.1, max l q.2.1, min h q.2.2) :: E
theorem a_ad_ok {σ : aN → Int} {E : aF} {q : aN × Int × Int} (hE : a_f σ E) (h : q.2.1 ≤ σ q.1 ∧ σ q.1 ≤ q.2.2) : a_f σ (a_ad E q) := by
  unfold a_ad
  split
  · intro p hp
    rcases List.mem_cons.mp hp with rfl | hp
    · exact h
    · exact hE p hp
  · rename_i l hh e
    have h4 := a_fd_ok hE e
    intro p hp
    rcases List.mem_cons.mp hp with rfl | hp
    · dsimp only at h4 ⊢
      omega
    · exact hE p hp
def a_ads : aF → aF → aF
  | E, [] => E
  | E, q :: t => a_ads (a_ad E q) t
theorem a_ads_ok {σ : aN → Int} : ∀ {F E : aF}, a_f σ E → a_f σ F → a_f σ (a_ads E F) := by
  intro F
  induction F with
  | nil => intro E hE _; exact hE
  | cons q t ih =>
    intro E hE hF
    exact ih (a_ad_ok hE (hF q List.mem_cons_self)) (fun p hp => hF p (List.mem_cons_of_mem _ hp))
/-- a value is found between two numbers -/
def a_rf (E : aF) (a : aV) (lo hi : Int) : Option aF :=
  cond (decide (min (a_bd E a).2 hi < max (a_bd E a).1 lo)) none
    (some (a_ads (match a.2.2.2.1 with
      | none => E
      | some (n, c) => a_ad E (n, max (a_bd E a).1 lo - c, min (a_bd E a).2 hi - c))
      (cond (decide (0 < max (a_bd E a).1 lo) || decide (min (a_bd E a).2 hi < 0)) a.2.2.2.2.1
        (cond (decide (0 ≤ max (a_bd E a).1 lo) && decide (min (a_bd E a).2 hi ≤ 0)) a.2.2.2.2.2 []))))
theorem a_rf_ok {σ : aN → Int} {E : aF} {a : aV} {x : Int32} {lo hi : Int} (hE : a_f σ E) (h : a_i σ a x) (h1 : lo ≤ x.toInt) (h2 : x.toInt ≤ hi) : ∃ E', a_rf E a lo hi = some E' ∧ a_f σ E' := by
  have hb := a_bd_ok hE h
  obtain ⟨-, -, h3, h4, h5⟩ := h
  unfold a_rf
  have hn : decide (min (a_bd E a).2 hi < max (a_bd E a).1 lo) = false := by
    rw [decide_eq_false_iff_not]
    omega
  rw [hn]
  refine ⟨_, rfl, a_ads_ok ?_ ?_⟩
  · split
    · exact hE
    · rename_i n c e
      have h6 := h3 n c e
      refine a_ad_ok hE ?_
      dsimp only
      omega
  · cases hc : (decide (0 < max (a_bd E a).1 lo) || decide (min (a_bd E a).2 hi < 0)) with
    | true =>
      refine h4 (fun e => ?_)
      rw [e] at hb h1 h2
      rw [Bool.or_eq_true, decide_eq_true_eq, decide_eq_true_eq] at hc
      have e0 : (0 : Int32).toInt = 0 := rfl
      omega
    | false =>
      cases hd : (decide (0 ≤ max (a_bd E a).1 lo) && decide (min (a_bd E a).2 hi ≤ 0)) with
      | true =>
        refine h5 ?_
        rw [Bool.and_eq_true, decide_eq_true_eq, decide_eq_true_eq] at hd
        have e0 : (0 : Int32).toInt = 0 := rfl
        exact Int32.toInt_inj.mp (by omega)
      | false => intro q hq; cases hq
/-- what a comparison tells: bounds for the one and for the other -/
def a_cb (k : ClassFile.Cond) (x y : Int × Int) : (Int × Int) × (Int × Int) := match k with
  | .eq => (y, x)
  | .ne => ((cond (decide (y.1 = y.2) && decide (x.1 = y.1)) (x.1 + 1) x.1, cond (decide (y.1 = y.2) && decide (x.2 = y.1)) (x.2 - 1) x.2), y)
  | .lt => ((x.1, y.2 - 1), (x.1 + 1, y.2))
  | .ge => ((y.1, x.2), (y.1, x.2))
  | .gt => ((y.1 + 1, x.2), (y.1, x.2 - 1))
  | .le => ((x.1, y.2), (x.1, y.2))
theorem a_ce {k : ClassFile.Cond} {x y : Int32} (z : xe_c k x y = true) : match k with
  | .eq => x.toInt = y.toInt
  | .ne => x.toInt ≠ y.toInt
  | .lt => x.toInt < y.toInt
  | .ge => y.toInt ≤ x.toInt
  | .gt => y.toInt < x.toInt
  | .le => x.toInt ≤ y.toInt := by
  cases k
  · have h := of_decide_eq_true z
    exact congrArg Int32.toInt h
  · intro e
    have h := Int32.toInt_inj.mp e
    unfold xe_c at z
    simp [h] at z
  · exact Int32.lt_iff_toInt_lt.mp (of_decide_eq_true z)
  · exact Int32.le_iff_toInt_le.mp (of_decide_eq_true z)
  · exact Int32.lt_iff_toInt_lt.mp (of_decide_eq_true z)
  · exact Int32.le_iff_toInt_le.mp (of_decide_eq_true z)
theorem a_cb_ok {k : ClassFile.Cond} {x y : Int32} {p q : Int × Int} (z : xe_c k x y = true) (hx : p.1 ≤ x.toInt ∧ x.toInt ≤ p.2) (hy : q.1 ≤ y.toInt ∧ y.toInt ≤ q.2) : ((a_cb k p q).1.1 ≤ x.toInt ∧ x.toInt ≤ (a_cb k p q).1.2) ∧ ((a_cb k p q).2.1 ≤ y.toInt ∧ y.toInt ≤ (a_cb k p q).2.2) := by
  have h := a_ce z
  cases k
  · dsimp only at h
    simp only [a_cb]
    omega
  · dsimp only at h
    simp only [a_cb]
    refine ⟨⟨?_, ?_⟩, hy⟩
    · cases hc : (decide (q.1 = q.2) && decide (p.1 = q.1)) with
      | true =>
        rw [Bool.and_eq_true, decide_eq_true_eq, decide_eq_true_eq] at hc
        simp only [cond_true]
        omega
      | false => exact hx.1
    · cases hc : (decide (q.1 = q.2) && decide (p.2 = q.1)) with
      | true =>
        rw [Bool.and_eq_true, decide_eq_true_eq, decide_eq_true_eq] at hc
        simp only [cond_true]
        omega
      | false => exact hx.2
  all_goals
    dsimp only at h
    simp only [a_cb]
    omega
def a_neg (k : ClassFile.Cond) : ClassFile.Cond := match k with
  | .eq => .ne
  | .ne => .eq
  | .lt => .ge
  | .ge => .lt
  | .gt => .le
  | .le => .gt
theorem a_neg_ok {k : ClassFile.Cond} {x y : Int32} (z : xe_c k x y = false) : xe_c (a_neg k) x y = true := by
  cases k
  · have z : decide (x = y) = false := z
    show (!decide (x = y)) = true
    rw [z]; rfl
  · have z : (!decide (x = y)) = false := z
    show decide (x = y) = true
    cases h : decide (x = y) with
    | true => rfl
    | false => rw [h] at z; cases z
  · have h := of_decide_eq_false z
    exact decide_eq_true (by rw [Int32.lt_iff_toInt_lt] at h; rw [Int32.le_iff_toInt_le]; omega)
  · have h := of_decide_eq_false z
    exact decide_eq_true (by rw [Int32.le_iff_toInt_le] at h; rw [Int32.lt_iff_toInt_lt]; omega)
  · have h := of_decide_eq_false z
    exact decide_eq_true (by rw [Int32.lt_iff_toInt_lt] at h; rw [Int32.le_iff_toInt_le]; omega)
  · have h := of_decide_eq_false z
    exact decide_eq_true (by rw [Int32.le_iff_toInt_le] at h; rw [Int32.lt_iff_toInt_lt]; omega)
/-- the facts where a comparison holds (none: it can't) -/
def a_cmp (k : ClassFile.Cond) (E : aF) (x y : aV) : Option aF := match a_rf E x (a_cb k (a_bd E x) (a_bd E y)).1.1 (a_cb k (a_bd E x) (a_bd E y)).1.2 with
  | none => none
  | some E1 => a_rf E1 y (a_cb k (a_bd E x) (a_bd E y)).2.1 (a_cb k (a_bd E x) (a_bd E y)).2.2
theorem a_cmp_ok {σ : aN → Int} {k : ClassFile.Cond} {E : aF} {a b : aV} {x y : Int32} (hE : a_f σ E) (hx : a_i σ a x) (hy : a_i σ b y) (z : xe_c k x y = true) : ∃ E', a_cmp k E a b = some E' ∧ a_f σ E' := by
  obtain ⟨c1, c2⟩ := a_cb_ok z (a_bd_ok hE hx) (a_bd_ok hE hy)
  obtain ⟨E1, h1, h2⟩ := a_rf_ok hE hx c1.1 c1.2
  obtain ⟨E2, h3, h4⟩ := a_rf_ok h2 hy c2.1 c2.2
  refine ⟨E2, ?_, h4⟩
  unfold a_cmp
  rw [h1]
  exact h3
end XAB
end
section
section XAI
/-- the shapes of the first 72 cells -/
def a_sh : List (Nat × Nat) := [(0, 9), (0, 8), (2, 640), (0, 4), (0, 3), (1, 400), (1, 400), (1, 64), (0, 6), (1, 16), (1, 16), (0, 7), (4, 64), (5, 8), (0, 2), (1, 924), (1, 924), (1, 12), (1, 14), (1, 12), (4, 13), (0, 5), (1, 12), (1, 12), (1, 12), (1, 12), (1, 12), (1, 12), (0, 0), (1, 7), (1, 84), (1, 7), (1, 7), (1, 7), (1, 896), (0, 1), (1, 60), (1, 60), (3, 60), (0, 10), (1, 640), (3, 53248), (3, 53248), (3, 65536), (3, 32768), (3, 4096), (1, 53248), (1, 13), (1, 13), (1, 13), (4, 16), (1, 8), (1, 8), (3, 4096), (1, 12), (1, 12), (1, 12), (1, 12), (1, 13), (1, 924), (1, 924), (3, 144), (1, 84), (3, 49), (3, 49), (1, 56), (1, 7), (1, 7), (1, 60), (1, 60), (3, 60), (4, 1)]
abbrev aT : Type := List (List (Nat × Int × Int))
def a_e (h : xh_H) (c k : Nat) (e : Nat × Int × Int) : Prop := match e.1 with
  | 0 => e.2.1 ≤ (xg 0 h.2.1 c k).toInt ∧ (xg 0 h.2.1 c k).toInt ≤ e.2.2
  | 1 => e.2.1 ≤ (xg 0 h.2.2.1 c k).toInt ∧ (xg 0 h.2.2.1 c k).toInt ≤ e.2.2
  | 2 => ∃ q, xg none h.2.2.2 c k = some q ∧ a_r h.1.length e.2.1.toNat q
  | 3 => ∀ q, xg none h.2.2.2 c k = some q → a_r h.1.length e.2.1.toNat q
  | _ => True
def a_sz (s : Nat × Nat) : Nat := match s.1 with
  | 0 => xh_N s.2
  | _ => s.2
def a_ent (tb : aT) (s : Nat × Nat) (t k : Nat) : Nat × Int × Int := match s.1 with
  | 0 => (tb.getD t []).getD k (9, 0, 0)
  | _ => (tb.getD t []).getD 0 (9, 0, 0)
/-- THE HEAP KEEPS ITS BOUNDS -/
def a_inw (tb : aT) (h : xh_H) : Prop := ∀ c s, h.1[c]? = some s → a_sh[a_tg c]? = some s ∧ ∀ k, k < a_sz s → a_e h c k (a_ent tb s (a_tg c) k)
/-- more members never make it less -/
def a_mono (f : Nat → Int) (n : Nat) : Prop := ∀ s t, s < n → t < n → s &&& t = s → f s ≤ f t
/-- a bit of the class's table of who is at least as strong -/
def a_ge (h : xh_H) (a b : Nat) : Prop := (xg 0 h.2.1 19 a).toInt.toNat.testBit b = true
/-- what holds between fields and elements: Powers.full of Powers.members; the reference's statutes and its row; who is at least as strong as whom -/
def a_J (tb : aT) (h : xh_H) : Prop := (xg 0 h.2.1 14 8).toInt = ((2 ^ (xg 0 h.2.1 14 7).toInt.toNat : Nat) : Int) - 1 ∧ (∀ k : Nat, (k : Int) < (xg 0 h.2.1 39 33).toInt → a_mono (fun s => (xg 0 h.2.1 44 (4096 * k + s)).toInt) 4096) ∧ a_mono (fun s => (xg 0 h.2.1 53 s).toInt) (xg 0 h.2.1 39 35).toInt.toNat ∧ (tb.length = 72 → ∀ a b c : Nat, (a : Int) < (xg 0 h.2.1 14 7).toInt → (b : Int) < (xg 0 h.2.1 14 7).toInt → (c : Int) < (xg 0 h.2.1 14 7).toInt → a_ge h a b → a_ge h b c → a_ge h a c)
/-- the places that it speaks of: only methods proved by hand write there -/
def a_jc (c k : Nat) : Bool := cond (Nat.beq c 14) (Nat.beq k 7 || Nat.beq k 8) (cond (Nat.beq c 39) (Nat.beq k 33 || Nat.beq k 35) (Nat.beq c 44 || (Nat.beq c 53 || Nat.beq c 19)))
theorem a_J_of {tb : aT} {h h' : xh_H} (hj : a_J tb h) (he : ∀ c k, a_jc c k = true → xg 0 h'.2.1 c k = xg 0 h.2.1 c k) : a_J tb h' := by
  obtain ⟨h1, h2, h3, h4⟩ := hj
  refine ⟨?_, ?_, ?_, ?_⟩
  · rw [he 14 8 rfl, he 14 7 rfl]
    exact h1
  · intro k hk s t hs ht hst
    rw [he 39 33 rfl] at hk
    have g := h2 k hk s t hs ht hst
    dsimp only at g ⊢
    rw [he 44 (4096 * k + s) rfl, he 44 (4096 * k + t) rfl]
    exact g
  · intro s t hs ht hst
    rw [he 39 35 rfl] at hs ht
    have g := h3 s t hs ht hst
    dsimp only at g ⊢
    rw [he 53 s rfl, he 53 t rfl]
    exact g
  · intro tl a b c ha hb hc hab hbc
    rw [he 14 7 rfl] at ha hb hc
    unfold a_ge at hab hbc ⊢
    rw [he 19 _ rfl] at hab hbc ⊢
    exact h4 tl a b c ha hb hc hab hbc
theorem a_jc_ar {b t k : Nat} (h14 : b ≠ 14) (h39 : b ≠ 39) (hb : b < 72 → b = t) (hj : a_jc t 0 = false) : a_jc b k = false := by
  have nb : ∀ {x y : Nat}, x ≠ y → Nat.beq x y = false := by
    intro x y h
    rw [Bool.eq_false_iff]
    intro z
    exact h (Nat.eq_of_beq_eq_true z)
  by_cases h : b < 72
  · have e := hb h
    subst e
    unfold a_jc at hj ⊢
    rw [nb h14, nb h39] at hj ⊢
    exact hj
  · unfold a_jc
    rw [nb h14, nb h39, nb (show b ≠ 44 by omega), nb (show b ≠ 53 by omega), nb (show b ≠ 19 by omega)]
    rfl
def a_inv (tb : aT) (h : xh_H) : Prop := a_inw tb h ∧ a_J tb h
/-- a cell of which there is one, an object -/
def a_ob (c : Nat) : Bool := match a_sh[c]? with
  | some (0, ci) => !(Nat.beq ci 7)
  | _ => false
set_option maxRecDepth 10000 in
theorem a_ob_lt : ∀ c, a_ob c = true → c < 72 ∧ c ≠ 11 ∧ c ≠ 12 := by
  intro c h
  by_cases hc : c < 72
  · refine ⟨hc, ?_, ?_⟩
    · intro e; subst e; revert h; decide
    · intro e; subst e; revert h; decide
  · unfold a_ob at h
    rw [List.getElem?_eq_none (by show 72 ≤ c; omega)] at h
    cases h
theorem a_tg_lt {q : Nat} (h : q < 72) : a_tg q = q := by
  unfold a_tg
  rw [show Nat.blt q 72 = true from Nat.blt_eq.mpr h]
  rfl
theorem a_tg_ge {q : Nat} (h : ¬ q < 72) : a_tg q = 11 ∨ a_tg q = 12 := by
  unfold a_tg
  rw [show Nat.blt q 72 = false from by rw [Bool.eq_false_iff]; intro z; exact h (Nat.blt_eq.mp z)]
  cases Nat.beq (q % 2) 0
  · exact Or.inr rfl
  · exact Or.inl rfl
theorem a_r_ob {n t q : Nat} (ht : a_ob t = true) (h : a_r n t q) : q = t := by
  obtain ⟨h1, h2, h3⟩ := a_ob_lt t ht
  by_cases hq : q < 72
  · rw [← h.2, a_tg_lt hq]
  · rcases a_tg_ge hq with e | e
    · exact absurd (h.2.symm.trans e) h2
    · exact absurd (h.2.symm.trans e) h3
/-- cells whose ints a frame speaks of: all of the first 72 but statutes and bits -/
def a_fz (c : Nat) : Bool := Nat.blt c 72 && (!(Nat.beq c 11) && !(Nat.beq c 12))
def a_key (c k : Nat) : Nat := cond (a_ob c) k 0
theorem a_ob_fz {c : Nat} (h : a_ob c = true) : a_fz c = true := by
  obtain ⟨h1, h2, h3⟩ := a_ob_lt c h
  unfold a_fz
  rw [Nat.blt_eq.mpr h1, show Nat.beq c 11 = false from by rw [Bool.eq_false_iff]; intro z; exact h2 (Nat.eq_of_beq_eq_true z), show Nat.beq c 12 = false from by rw [Bool.eq_false_iff]; intro z; exact h3 (Nat.eq_of_beq_eq_true z)]
  rfl
theorem a_fz_lt {c : Nat} (h : a_fz c = true) : c < 72 := by
  obtain ⟨h1, -⟩ := xw_bb h
  exact Nat.blt_eq.mp h1
theorem a_key_ob {c k : Nat} (h : a_ob c = true) : a_key c k = k := by
  unfold a_key
  rw [h]
  rfl
/-- what holds of a frame -/
def a_s (tb : aT) (σ : aN → Int) (h0 : xh_H) (md : List (Nat × Nat)) (A : aS) (lv : List (Nat × Value)) (st : List Value) (h : xh_H) : Prop :=
  a_inv tb h ∧ h.1 = h0.1 ∧ (∀ q ∈ A.1, ∃ v, xl_get lv q.1 = some v ∧ a_v σ h.1.length q.2 v) ∧ a_st σ h.1.length A.2.1 st ∧ a_f σ A.2.2.1 ∧ (∀ q ∈ A.2.2.2, a_ob q.1.1 = true ∧ a_v σ h.1.length q.2 (.int (xg 0 h.2.1 q.1.1 q.1.2))) ∧ ∀ c k, a_fz c = true → (c, a_key c k) ∉ md → xg 0 h.2.1 c k = xg 0 h0.2.1 c k
def a_lk : List (Nat × aV) → Nat → Option aV
  | [], _ => none
  | q :: t, i => cond (Nat.beq q.1 i) (some q.2) (a_lk t i)
theorem a_lk_mem {L : List (Nat × aV)} {i : Nat} {a : aV} (h : a_lk L i = some a) : (i, a) ∈ L := by
  induction L with
  | nil => cases h
  | cons q t ih =>
    unfold a_lk at h
    cases hb : Nat.beq q.1 i with
    | true =>
      rw [hb] at h
      have h1 := Nat.eq_of_beq_eq_true hb
      cases h
      subst h1
      exact List.mem_cons_self
    | false => rw [hb] at h; exact List.mem_cons_of_mem _ (ih h)
def a_kf (L : List (aN × aV)) (n : aN) : Option aV := match L with
  | [] => none
  | q :: t => cond (a_nq q.1 n) (some q.2) (a_kf t n)
theorem a_kf_mem {n : aN} {a : aV} : ∀ {L : List (aN × aV)}, a_kf L n = some a → (n, a) ∈ L := by
  intro L
  induction L with
  | nil => intro h; cases h
  | cons q t ih =>
    intro h
    unfold a_kf at h
    cases hb : a_nq q.1 n with
    | true =>
      rw [hb] at h
      have h1 := a_nq_ok hb
      cases h
      subst h1
      exact List.mem_cons_self
    | false => rw [hb] at h; exact List.mem_cons_of_mem _ (ih h)
def a_set (L : List (Nat × aV)) (i : Nat) (a : aV) : List (Nat × aV) := (i, a) :: L.filter (fun q => !(Nat.beq q.1 i) && !(Nat.beq (q.1 + 1) i && Nat.beq q.2.1 1))
theorem xl_get_f {p : Nat × Value → Bool} {j : Nat} {v : Value} (hp : p (j, v) = true) : ∀ {lv : List (Nat × Value)}, xl_get lv j = some v → xl_get (lv.filter p) j = some v := by
  intro lv
  induction lv with
  | nil => intro h; cases h
  | cons q t ih =>
    intro h
    unfold xl_get at h
    cases hb : Nat.beq q.1 j with
    | true =>
      rw [hb] at h
      cases h
      have e := Nat.eq_of_beq_eq_true hb
      have e2 : q = (j, q.2) := Prod.ext e rfl
      have hq : p q = true := by rw [e2]; exact hp
      rw [List.filter_cons_of_pos hq]
      unfold xl_get
      rw [hb]
      rfl
    | false =>
      rw [hb] at h
      cases hq : p q with
      | true =>
        rw [List.filter_cons_of_pos hq]
        unfold xl_get
        rw [hb]
        exact ih h
      | false =>
        rw [List.filter_cons_of_neg (by rw [hq]; decide)]
        exact ih h
theorem a_v_cat {σ : aN → Int} {n : Nat} {a : aV} {v : Value} (h : a_v σ n a v) (hk : Nat.beq a.1 1 = false) : v.category = 1 := by
  unfold a_v at h
  split at h
  · obtain ⟨x, rfl, _⟩ := h; rfl
  · rename_i e; rw [e] at hk; cases hk
  · obtain ⟨q, rfl, _⟩ := h; rfl
  · rcases h with rfl | ⟨q, rfl, _⟩ <;> rfl
  · rw [h]; rfl
theorem a_set_ok {σ : aN → Int} {n : Nat} {L : List (Nat × aV)} {lv : List (Nat × Value)} {i : Nat} {a : aV} {v : Value} (hL : ∀ q ∈ L, ∃ v, xl_get lv q.1 = some v ∧ a_v σ n q.2 v) (hv : a_v σ n a v) : ∀ q ∈ a_set L i a, ∃ v', xl_get (xl_1 lv i v) q.1 = some v' ∧ a_v σ n q.2 v' := by
  intro q hq
  rcases List.mem_cons.mp hq with rfl | hq
  · refine ⟨v, ?_, hv⟩
    unfold xl_1 xl_get
    rw [Nat.beq_refl]
    rfl
  · obtain ⟨hq, hp⟩ := List.mem_filter.mp hq
    obtain ⟨w, h1, h2⟩ := hL q hq
    refine ⟨w, ?_, h2⟩
    rw [Bool.and_eq_true, Bool.not_eq_true', Bool.not_eq_true'] at hp
    unfold xl_1 xl_get
    have hb : Nat.beq i q.1 = false := by
      rw [Bool.eq_false_iff]
      intro z
      have e := Nat.eq_of_beq_eq_true z
      rw [← e, Nat.beq_refl] at hp
      cases hp.1
    rw [hb]
    refine xl_get_f ?_ h1
    have e1 : (q.1 == i) = false := by
      rw [beq_eq_false_iff_ne]
      intro e
      rw [e, Nat.beq_refl] at hp
      cases hp.1
    dsimp only
    rw [e1]
    cases hc : (q.1 + 1 == i) with
    | false => rfl
    | true =>
      have e2 : Nat.beq (q.1 + 1) i = true := by rw [beq_iff_eq] at hc; rw [hc]; exact Nat.beq_refl i
      have hk : Nat.beq q.2.1 1 = false := by
        have := hp.2
        rw [e2] at this
        exact this
      rw [a_v_cat h2 hk]
      rfl
end XAI
end
section
section XAO
def a_I (lo hi : Int) : aV := (0, lo, hi, none, [], [])
def a_top : aV := a_I (-2147483648) 2147483647
theorem a_I_ok {σ : aN → Int} {lo hi : Int} {x : Int32} (h1 : lo ≤ x.toInt) (h2 : x.toInt ≤ hi) : a_i σ (a_I lo hi) x := ⟨h1, h2, fun n c e => (by cases e), fun _ q hq => (by cases hq), fun _ q hq => (by cases hq)⟩
theorem a_top_ok {σ : aN → Int} (x : Int32) : a_i σ a_top x := a_I_ok (ar_rng x).1 (ar_rng x).2
def a_in (p : Int × Int) : Bool := decide (-2147483648 ≤ p.1) && decide (p.2 ≤ 2147483647)
theorem a_in_ok {p : Int × Int} (h : a_in p = true) : -2147483648 ≤ p.1 ∧ p.2 ≤ 2147483647 := by
  obtain ⟨h1, h2⟩ := xw_bb h
  exact ⟨of_decide_eq_true h1, of_decide_eq_true h2⟩
def a_os (o : Option (aN × Int)) (d : Int) : Option (aN × Int) := match o with
  | none => none
  | some (n, c) => some (n, c + d)
theorem a_os_ok {σ : aN → Int} {o : Option (aN × Int)} {d z : Int} (h : ∀ n c, o = some (n, c) → z = σ n + c) : ∀ n c, a_os o d = some (n, c) → z + d = σ n + c := by
  intro n c e
  cases o with
  | none => cases e
  | some q =>
    obtain ⟨m, b⟩ := q
    have h1 := h m b rfl
    cases e
    omega
def a_sum (ox oy : Option (aN × Int)) (bx bY : Int × Int) : aV := cond (a_in (bx.1 + bY.1, bx.2 + bY.2)) (0, bx.1 + bY.1, bx.2 + bY.2, cond (decide (bY.1 = bY.2)) (a_os ox bY.1) (cond (decide (bx.1 = bx.2)) (a_os oy bx.1) none), [], []) a_top
theorem a_sum_ok {σ : aN → Int} {a b : aV} {E : aF} {x y : Int32} (hE : a_f σ E) (hx : a_i σ a x) (hy : a_i σ b y) : a_i σ (a_sum a.2.2.2.1 b.2.2.2.1 (a_bd E a) (a_bd E b)) (x + y) := by
  have h1 := a_bd_ok hE hx
  have h2 := a_bd_ok hE hy
  unfold a_sum
  cases hc : a_in ((a_bd E a).1 + (a_bd E b).1, (a_bd E a).2 + (a_bd E b).2) with
  | false => exact a_top_ok _
  | true =>
    obtain ⟨c1, c2⟩ := a_in_ok hc
    dsimp only at c1 c2
    have e : (x + y).toInt = x.toInt + y.toInt := ar_add (by omega) (by omega)
    refine ⟨(by dsimp only [cond_true]; omega), (by dsimp only [cond_true]; omega), ?_, fun _ q hq => (by cases hq), fun _ q hq => (by cases hq)⟩
    dsimp only [cond_true]
    rw [e]
    cases hd : decide ((a_bd E b).1 = (a_bd E b).2) with
    | true =>
      have hd := of_decide_eq_true hd
      have ey : y.toInt = (a_bd E b).1 := by omega
      rw [ey]
      exact a_os_ok hx.2.2.1
    | false =>
      cases hd2 : decide ((a_bd E a).1 = (a_bd E a).2) with
      | true =>
        have hd2 := of_decide_eq_true hd2
        have ex : x.toInt = (a_bd E a).1 := by omega
        rw [ex, Int.add_comm]
        exact a_os_ok hy.2.2.1
      | false => intro n c z; cases z
def a_dif (ox : Option (aN × Int)) (bx bY : Int × Int) : aV := cond (a_in (bx.1 - bY.2, bx.2 - bY.1)) (0, bx.1 - bY.2, bx.2 - bY.1, cond (decide (bY.1 = bY.2)) (a_os ox (-bY.1)) none, [], []) a_top
theorem a_dif_ok {σ : aN → Int} {a b : aV} {E : aF} {x y : Int32} (hE : a_f σ E) (hx : a_i σ a x) (hy : a_i σ b y) : a_i σ (a_dif a.2.2.2.1 (a_bd E a) (a_bd E b)) (x - y) := by
  have h1 := a_bd_ok hE hx
  have h2 := a_bd_ok hE hy
  unfold a_dif
  cases hc : a_in ((a_bd E a).1 - (a_bd E b).2, (a_bd E a).2 - (a_bd E b).1) with
  | false => exact a_top_ok _
  | true =>
    obtain ⟨c1, c2⟩ := a_in_ok hc
    dsimp only at c1 c2
    have e : (x - y).toInt = x.toInt - y.toInt := ar_sub (by omega) (by omega)
    refine ⟨(by dsimp only [cond_true]; omega), (by dsimp only [cond_true]; omega), ?_, fun _ q hq => (by cases hq), fun _ q hq => (by cases hq)⟩
    dsimp only [cond_true]
    rw [e]
    cases hd : decide ((a_bd E b).1 = (a_bd E b).2) with
    | true =>
      have hd := of_decide_eq_true hd
      have ey : x.toInt - y.toInt = x.toInt + -(a_bd E b).1 := by omega
      rw [ey]
      exact a_os_ok hx.2.2.1
    | false => intro n c z; cases z
def a_prd (bx bY : Int × Int) : aV := cond (decide (0 ≤ bx.1) && (decide (0 ≤ bY.1) && decide (bx.2 * bY.2 ≤ 2147483647))) (a_I (bx.1 * bY.1) (bx.2 * bY.2)) a_top
theorem a_prd_ok {σ : aN → Int} {a b : aV} {E : aF} {x y : Int32} (hE : a_f σ E) (hx : a_i σ a x) (hy : a_i σ b y) : a_i σ (a_prd (a_bd E a) (a_bd E b)) (x * y) := by
  have h1 := a_bd_ok hE hx
  have h2 := a_bd_ok hE hy
  unfold a_prd
  cases hc : (decide (0 ≤ (a_bd E a).1) && (decide (0 ≤ (a_bd E b).1) && decide ((a_bd E a).2 * (a_bd E b).2 ≤ 2147483647))) with
  | false => exact a_top_ok _
  | true =>
    obtain ⟨c1, c2⟩ := xw_bb hc
    obtain ⟨c2, c3⟩ := xw_bb c2
    have c1 := of_decide_eq_true c1
    have c2 := of_decide_eq_true c2
    have c3 := of_decide_eq_true c3
    have m1 : (a_bd E a).1 * (a_bd E b).1 ≤ x.toInt * y.toInt := Int.mul_le_mul h1.1 h2.1 c2 (by omega)
    have m2 : x.toInt * y.toInt ≤ (a_bd E a).2 * (a_bd E b).2 := Int.mul_le_mul h1.2 h2.2 (by omega) (by omega)
    have m3 : 0 ≤ (a_bd E a).1 * (a_bd E b).1 := Int.mul_nonneg c1 c2
    have e : (x * y).toInt = x.toInt * y.toInt := ar_mul (by omega) (by omega)
    exact a_I_ok (by omega) (by omega)
def a_and (bx bY : Int × Int) : aV := cond (decide (0 ≤ bY.1)) (cond (decide (0 ≤ bx.1)) (a_I 0 (min bx.2 bY.2)) (a_I 0 bY.2)) (cond (decide (0 ≤ bx.1)) (a_I 0 bx.2) a_top)
theorem a_and_ok {σ : aN → Int} {a b : aV} {E : aF} {x y : Int32} (hE : a_f σ E) (hx : a_i σ a x) (hy : a_i σ b y) : a_i σ (a_and (a_bd E a) (a_bd E b)) (x &&& y) := by
  have h1 := a_bd_ok hE hx
  have h2 := a_bd_ok hE hy
  unfold a_and
  cases hy1 : decide (0 ≤ (a_bd E b).1) with
  | true =>
    have hy1 := of_decide_eq_true hy1
    have q1 := ar_and1 (x := x) (y := y) (by omega)
    cases hx1 : decide (0 ≤ (a_bd E a).1) with
    | true =>
      have hx1 := of_decide_eq_true hx1
      have q2 := ar_and2 (x := x) (y := y) (by omega)
      exact a_I_ok (by omega) (by omega)
    | false => exact a_I_ok (by omega) (by omega)
  | false =>
    cases hx1 : decide (0 ≤ (a_bd E a).1) with
    | true =>
      have hx1 := of_decide_eq_true hx1
      have q2 := ar_and2 (x := x) (y := y) (by omega)
      exact a_I_ok (by omega) (by omega)
    | false => exact a_top_ok _
/-- what holds if a value is not 0 -/
def a_nz (E : aF) (a : aV) : aF := a.2.2.2.2.1 ++ (match a.2.2.2.1 with
  | some (n, c) => cond (decide (0 ≤ (a_bd E a).1)) [(n, max (a_bd E a).1 1 - c, (a_bd E a).2 - c)] []
  | none => [])
theorem a_nz_ok {σ : aN → Int} {E : aF} {a : aV} {x : Int32} (hE : a_f σ E) (hx : a_i σ a x) (hz : x ≠ 0) : a_f σ (a_nz E a) := by
  have hb := a_bd_ok hE hx
  intro q hq
  rcases List.mem_append.mp hq with hq | hq
  · exact hx.2.2.2.1 hz q hq
  · split at hq
    · rename_i n c e
      have h3 := hx.2.2.1 n c e
      cases hd : decide (0 ≤ (a_bd E a).1) with
      | false => rw [hd] at hq; cases hq
      | true =>
        rw [hd] at hq
        have hd := of_decide_eq_true hd
        simp only [cond_true, List.mem_singleton] at hq
        subst hq
        dsimp only
        have h0 : x.toInt ≠ 0 := fun e0 => hz (Int32.toInt_inj.mp e0)
        omega
    · cases hq
def a_wf (a : aV) (F : aF) : aV := (a.1, a.2.1, a.2.2.1, a.2.2.2.1, F, a.2.2.2.2.2)
theorem a_wf_ok {σ : aN → Int} {a : aV} {F : aF} {x : Int32} (hx : a_i σ a x) (hF : x ≠ 0 → a_f σ F) : a_i σ (a_wf a F) x := ⟨hx.1, hx.2.1, hx.2.2.1, hF, hx.2.2.2.2⟩
theorem a_f_app {σ : aN → Int} {F G : aF} (h1 : a_f σ F) (h2 : a_f σ G) : a_f σ (F ++ G) := fun q hq => (List.mem_append.mp hq).elim (h1 q) (h2 q)
theorem a_and_nz {x y : Int32} (h : x &&& y ≠ 0) : x ≠ 0 ∧ y ≠ 0 := by
  constructor
  · intro e
    subst e
    exact h (Int32.zero_and)
  · intro e
    subst e
    exact h (Int32.and_zero)
theorem a_shr_nz {x y : Int32} (h : x >>> y ≠ 0) : x ≠ 0 := by
  intro e
  subst e
  exact h (Int32.zero_shiftRight)
def a_lg (z : Int) : Nat := Nat.log2 z.toNat + 1
theorem a_lg_ok {z : Int} : z < ((2 ^ a_lg z : Nat) : Int) := by
  have h : z.toNat < 2 ^ (Nat.log2 z.toNat + 1) := Nat.lt_log2_self
  unfold a_lg
  omega
def a_or (bx bY : Int × Int) : aV := cond (decide (0 ≤ bx.1) && (decide (0 ≤ bY.1) && Nat.ble (a_lg (max bx.2 bY.2)) 31)) (a_I 0 (((2 ^ a_lg (max bx.2 bY.2) : Nat) : Int) - 1)) a_top
theorem a_or_ok {σ : aN → Int} {a b : aV} {E : aF} {x y : Int32} (hE : a_f σ E) (hx : a_i σ a x) (hy : a_i σ b y) : a_i σ (a_or (a_bd E a) (a_bd E b)) (x ||| y) ∧ a_i σ (a_or (a_bd E a) (a_bd E b)) (x ^^^ y) := by
  have h1 := a_bd_ok hE hx
  have h2 := a_bd_ok hE hy
  unfold a_or
  cases hc : (decide (0 ≤ (a_bd E a).1) && (decide (0 ≤ (a_bd E b).1) && Nat.ble (a_lg (max (a_bd E a).2 (a_bd E b).2)) 31)) with
  | false => exact ⟨a_top_ok _, a_top_ok _⟩
  | true =>
    obtain ⟨c1, c2⟩ := xw_bb hc
    obtain ⟨c2, c3⟩ := xw_bb c2
    have c1 := of_decide_eq_true c1
    have c2 := of_decide_eq_true c2
    have c3 := xw_ble c3
    have l := a_lg_ok (z := max (a_bd E a).2 (a_bd E b).2)
    have q1 := ar_or (x := x) (y := y) c3 (by omega) (by omega) (by omega) (by omega)
    have q2 := ar_xor (x := x) (y := y) c3 (by omega) (by omega) (by omega) (by omega)
    exact ⟨a_I_ok (by omega) (by omega), a_I_ok (by omega) (by omega)⟩
def a_shl (bx bY : Int × Int) : aV := cond (decide (0 ≤ bx.1) && (decide (0 ≤ bY.1) && (decide (bY.2 ≤ 31) && decide (bx.2 * ((2 ^ bY.2.toNat : Nat) : Int) ≤ 2147483647)))) (a_I (bx.1 * ((2 ^ bY.1.toNat : Nat) : Int)) (bx.2 * ((2 ^ bY.2.toNat : Nat) : Int))) a_top
theorem a_nIx {y : Int32} (h1 : 0 ≤ y.toInt) : y = nI y.toInt.toNat ∧ y.toInt.toNat < 2 ^ 31 := by
  obtain ⟨j, hj, e⟩ := nI_of (x := y) (by rw [Int32.lt_iff_toInt_lt]; show ¬ y.toInt < 0; omega)
  have e2 := nI_toInt hj
  subst e
  rw [e2]
  exact ⟨rfl, hj⟩
theorem a_pw {i j : Nat} (h : i ≤ j) : ((2 ^ i : Nat) : Int) ≤ ((2 ^ j : Nat) : Int) := by
  have := Nat.pow_le_pow_right (n := 2) (by decide) h
  exact Int.ofNat_le.mpr this
theorem a_pp (i : Nat) : (1 : Int) ≤ ((2 ^ i : Nat) : Int) := by
  have : 0 < 2 ^ i := Nat.two_pow_pos i
  omega
theorem a_shl_ok {σ : aN → Int} {a b : aV} {E : aF} {x y : Int32} (hE : a_f σ E) (hx : a_i σ a x) (hy : a_i σ b y) : a_i σ (a_shl (a_bd E a) (a_bd E b)) (x <<< (y &&& 31)) := by
  have h1 := a_bd_ok hE hx
  have h2 := a_bd_ok hE hy
  unfold a_shl
  cases hc : (decide (0 ≤ (a_bd E a).1) && (decide (0 ≤ (a_bd E b).1) && (decide ((a_bd E b).2 ≤ 31) && decide ((a_bd E a).2 * ((2 ^ (a_bd E b).2.toNat : Nat) : Int) ≤ 2147483647)))) with
  | false => exact a_top_ok _
  | true =>
    obtain ⟨c1, c2⟩ := xw_bb hc
    obtain ⟨c2, c3⟩ := xw_bb c2
    obtain ⟨c3, c4⟩ := xw_bb c3
    have c1 := of_decide_eq_true c1
    have c2 := of_decide_eq_true c2
    have c3 := of_decide_eq_true c3
    have c4 := of_decide_eq_true c4
    obtain ⟨e, -⟩ := a_nIx (y := y) (by omega)
    have p1 := a_pw (i := (a_bd E b).1.toNat) (j := y.toInt.toNat) (by omega)
    have p2 := a_pw (i := y.toInt.toNat) (j := (a_bd E b).2.toNat) (by omega)
    have p0 := a_pp (a_bd E b).1.toNat
    have m1 : (a_bd E a).1 * ((2 ^ (a_bd E b).1.toNat : Nat) : Int) ≤ x.toInt * ((2 ^ y.toInt.toNat : Nat) : Int) := Int.mul_le_mul h1.1 p1 (by omega) (by omega)
    have m2 : x.toInt * ((2 ^ y.toInt.toNat : Nat) : Int) ≤ (a_bd E a).2 * ((2 ^ (a_bd E b).2.toNat : Nat) : Int) := Int.mul_le_mul h1.2 p2 (by omega) (by omega)
    have q := ar_shl (x := x) (k := y.toInt.toNat) (by omega) (by omega) (by omega)
    rw [← e] at q
    exact a_I_ok (by omega) (by omega)
def a_shr (bx bY : Int × Int) : aV := cond (decide (0 ≤ bY.1) && decide (bY.2 ≤ 31)) (cond (decide (0 ≤ bx.1)) (a_I 0 (bx.2 / ((2 ^ bY.1.toNat : Nat) : Int))) (a_I bx.1 (max bx.2 0))) a_top
theorem a_shr_ok {σ : aN → Int} {a b : aV} {E : aF} {x y : Int32} (hE : a_f σ E) (hx : a_i σ a x) (hy : a_i σ b y) : a_i σ (a_shr (a_bd E a) (a_bd E b)) (x >>> (y &&& 31)) := by
  have h1 := a_bd_ok hE hx
  have h2 := a_bd_ok hE hy
  unfold a_shr
  cases hc : (decide (0 ≤ (a_bd E b).1) && decide ((a_bd E b).2 ≤ 31)) with
  | false => exact a_top_ok _
  | true =>
    obtain ⟨c2, c3⟩ := xw_bb hc
    have c2 := of_decide_eq_true c2
    have c3 := of_decide_eq_true c3
    obtain ⟨e, -⟩ := a_nIx (y := y) (by omega)
    have q := ar_shr (x := x) (k := y.toInt.toNat) (by omega)
    rw [← e] at q
    have p0 := a_pp y.toInt.toNat
    have p1 := a_pw (i := (a_bd E b).1.toNat) (j := y.toInt.toNat) (by omega)
    have p2 := a_pp (a_bd E b).1.toNat
    cases hx1 : decide (0 ≤ (a_bd E a).1) with
    | true =>
      have hx1 := of_decide_eq_true hx1
      refine a_I_ok ?_ ?_
      · rw [q]; exact Int.ediv_nonneg (by omega) (by omega)
      · rw [q]
        refine Int.le_trans (b := x.toInt / ((2 ^ (a_bd E b).1.toNat : Nat) : Int)) ?_ (Int.ediv_le_ediv (by omega) h1.2)
        exact Int.le_ediv_of_mul_le (by omega) (Int.le_trans (Int.mul_le_mul_of_nonneg_left p1 (Int.ediv_nonneg (by omega) (by omega))) (Int.ediv_mul_le _ (by omega)))
    | false =>
      refine a_I_ok ?_ ?_
      · rw [q]
        by_cases hn : 0 ≤ x.toInt
        · have : 0 ≤ x.toInt / ((2 ^ y.toInt.toNat : Nat) : Int) := Int.ediv_nonneg hn (by omega)
          have hf := of_decide_eq_false hx1
          omega
        · refine Int.le_trans h1.1 (Int.le_ediv_of_mul_le (by omega) ?_)
          have : x.toInt * ((2 ^ y.toInt.toNat : Nat) : Int) ≤ x.toInt * 1 := Int.mul_le_mul_of_nonpos_left (by omega) p0
          omega
      · rw [q]
        by_cases hn : 0 ≤ x.toInt
        · have : x.toInt / ((2 ^ y.toInt.toNat : Nat) : Int) ≤ x.toInt := Int.ediv_le_self _ hn
          omega
        · have : x.toInt / ((2 ^ y.toInt.toNat : Nat) : Int) < 0 := Int.ediv_neg_of_neg_of_pos (by omega) (by omega)
          omega
end XAO
end
section
section XAS
theorem a_e_congr {h h' : xh_H} {c k : Nat} {e : Nat × Int × Int} (h1 : h'.1 = h.1) (h2 : xg 0 h'.2.1 c k = xg 0 h.2.1 c k) (h3 : h'.2.2 = h.2.2) (he : a_e h c k e) : a_e h' c k e := by
  unfold a_e at he ⊢
  rw [h1, h2, h3]
  exact he
/-- an int is written -/
theorem a_inw_ui {tb : aT} {h : xh_H} {c k : Nat} {x : Int32} {s : Nat × Nat} {lo hi : Int} (hi0 : a_inw tb h) (hs : h.1[c]? = some s) (he : a_ent tb s (a_tg c) k = (0, lo, hi)) (h1 : lo ≤ x.toInt) (h2 : x.toInt ≤ hi) : a_inw tb (xh_ui h c k x) := by
  intro c' s' hc'
  have hc2 : h.1[c']? = some s' := hc'
  obtain ⟨g1, g2⟩ := hi0 c' s' hc2
  refine ⟨g1, fun k' hk' => ?_⟩
  by_cases e : c' = c ∧ k' = k
  · obtain ⟨rfl, rfl⟩ := e
    rw [hs] at hc2
    cases hc2
    rw [he]
    show lo ≤ (xg 0 (xh_up 0 h.2.1 c' k' x) c' k').toInt ∧ (xg 0 (xh_up 0 h.2.1 c' k' x) c' k').toInt ≤ hi
    rw [xh_up_s]
    exact ⟨h1, h2⟩
  · refine a_e_congr (h := h) rfl ?_ rfl (g2 k' hk')
    show xg 0 (xh_up 0 h.2.1 c k x) c' k' = xg 0 h.2.1 c' k'
    by_cases e1 : c' = c
    · subst e1
      exact xh_up_k (fun z => e ⟨rfl, z⟩)
    · rw [xh_up_o e1]
theorem a_J_ui {tb : aT} {h : xh_H} {c k : Nat} {x : Int32} (hj : a_J tb h) (hjc : a_jc c k = false) : a_J tb (xh_ui h c k x) := by
  refine a_J_of hj (fun c' k' e => ?_)
  show xg 0 (xh_up 0 h.2.1 c k x) c' k' = xg 0 h.2.1 c' k'
  by_cases e1 : c' = c
  · subst e1
    refine xh_up_k (fun z => ?_)
    rw [z, hjc] at e
    cases e
  · rw [xh_up_o e1]
theorem a_inv_ui {tb : aT} {h : xh_H} {c k : Nat} {x : Int32} {s : Nat × Nat} {lo hi : Int} (hi0 : a_inv tb h) (hs : h.1[c]? = some s) (hjc : a_jc c k = false) (he : a_ent tb s (a_tg c) k = (0, lo, hi)) (h1 : lo ≤ x.toInt) (h2 : x.toInt ≤ hi) : a_inv tb (xh_ui h c k x) := ⟨a_inw_ui hi0.1 hs he h1 h2, a_J_ui hi0.2 hjc⟩
def a_pi (S : List aV) : Option (aV × List aV) := match S with
  | a :: q => cond (Nat.beq a.1 0) (some (a, q)) none
  | [] => none
theorem a_pi_ok {σ : aN → Int} {n : Nat} {S : List aV} {st : List Value} {a : aV} {q : List aV} (h : a_st σ n S st) (he : a_pi S = some (a, q)) : ∃ x V, st = .int x :: V ∧ a_i σ a x ∧ a_st σ n q V ∧ a.1 = 0 := by
  unfold a_pi at he
  match S, st, h, he with
  | b :: S, v :: V, h, he =>
    obtain ⟨h1, h2⟩ := xw_c he
    cases h2
    have h1 := xw_beq h1
    obtain ⟨g1, g2⟩ := h
    unfold a_v at g1
    rw [h1] at g1
    obtain ⟨x, rfl, g1⟩ := g1
    exact ⟨x, V, rfl, g1, g2, h1⟩
def a_pr (S : List aV) : Option (Nat × List aV) := match S with
  | a :: q => cond (Nat.beq a.1 2) (some (a.2.1.toNat, q)) none
  | [] => none
theorem a_pr_ok {σ : aN → Int} {n : Nat} {S : List aV} {st : List Value} {t : Nat} {q : List aV} (h : a_st σ n S st) (he : a_pr S = some (t, q)) : ∃ b V, st = .ref b :: V ∧ a_r n t b ∧ a_st σ n q V := by
  unfold a_pr at he
  match S, st, h, he with
  | a :: S, v :: V, h, he =>
    obtain ⟨h1, h2⟩ := xw_c he
    cases h2
    have h1 := xw_beq h1
    obtain ⟨g1, g2⟩ := h
    unfold a_v at g1
    rw [h1] at g1
    obtain ⟨b, rfl, g1⟩ := g1
    exact ⟨b, V, rfl, g1, g2⟩
theorem a_vi {σ : aN → Int} {n : Nat} {a : aV} {x : Int32} (hk : a.1 = 0) (h : a_i σ a x) : a_v σ n a (.int x) := by
  unfold a_v
  rw [hk]
  exact ⟨x, rfl, h⟩
def a_kk (k kind : Nat) : Bool := match k with
  | 0 => Nat.beq kind 0
  | 1 => Nat.beq kind 1
  | _ => Nat.ble 2 kind
theorem a_kk_ok {σ : aN → Int} {n k : Nat} {a : aV} {v : Value} (hk : k ≤ 2) (h : a_v σ n a v) (he : a_kk k a.1 = true) : xv_k k v = true := by
  unfold a_v at h
  match k, hk, he with
  | 0, _, he =>
    have he := xw_beq he
    rw [he] at h
    obtain ⟨x, rfl, _⟩ := h
    rfl
  | 1, _, he =>
    have he := xw_beq he
    rw [he] at h
    obtain ⟨x, rfl, _⟩ := h
    rfl
  | 2, _, he =>
    have he := xw_ble he
    split at h
    · omega
    · omega
    · obtain ⟨q, rfl, _⟩ := h; rfl
    · rcases h with rfl | ⟨q, rfl, _⟩ <;> rfl
    · rw [h]; rfl
def a_ld (k i len : Nat) (A : aS) : Option (Nat × aS) := match a_lk A.1 i with
  | some a => cond (a_kk k a.1) (some (len, A.1, a :: A.2.1, A.2.2)) none
  | none => none
def a_sv (k i len nL : Nat) (A : aS) : Option (Nat × aS) := match A.2.1 with
  | a :: q => cond (a_kk k a.1 && (Nat.ble (i + 1) nL && !(Nat.beq a.1 1))) (some (len, a_set A.1 i a, q, A.2.2)) none
  | [] => none
variable {tb : aT} {σ : aN → Int} {h0 : xh_H} {md : List (Nat × Nat)} {A A' : aS} {lv : List (Nat × Value)} {st : List Value} {h : xh_H} {nL d pc n : Nat}
theorem a_ld_ok {k i len : Nat} (hk : k ≤ 2) (hs : a_s tb σ h0 md A lv st h) (he : a_ld k i len A = some (n, A')) : ∃ lv' st' h', xe_ld k i len pc lv st h 0 0 = some (pc + n, lv', st', h', 0, 0) ∧ a_s tb σ h0 md A' lv' st' h' := by
  obtain ⟨i1, i2, i3, i4, i5, i6, i7⟩ := hs
  unfold a_ld at he
  split at he
  · rename_i a ha
    obtain ⟨h1, h2⟩ := xw_c he
    cases h2
    obtain ⟨v, g1, g2⟩ := i3 _ (a_lk_mem ha)
    refine ⟨lv, v :: st, h, ?_, i1, i2, i3, ⟨g2, i4⟩, i5, i6, i7⟩
    unfold xe_ld
    rw [g1]
    dsimp only
    rw [a_kk_ok hk g2 h1]
    rfl
  · cases he
theorem a_sv_ok {k i len : Nat} (hk : k ≤ 2) (hs : a_s tb σ h0 md A lv st h) (he : a_sv k i len nL A = some (n, A')) : ∃ lv' st' h', xe_st1 k i len pc nL lv st h 0 0 = some (pc + n, lv', st', h', 0, 0) ∧ a_s tb σ h0 md A' lv' st' h' := by
  obtain ⟨i1, i2, i3, i4, i5, i6, i7⟩ := hs
  unfold a_sv at he
  split at he
  · rename_i a q ha
    obtain ⟨h1, h2⟩ := xw_c he
    cases h2
    obtain ⟨h1, h3⟩ := xw_bb h1
    obtain ⟨h3, h4⟩ := xw_bb h3
    rw [ha] at i4
    match st, i4 with
    | v :: V, i4 =>
      refine ⟨xl_1 lv i v, V, h, ?_, i1, i2, a_set_ok i3 i4.1, i4.2, i5, i6, i7⟩
      unfold xe_st1
      dsimp only
      rw [a_kk_ok hk i4.1 h1, h3]
      rfl
  · cases he
/-- a field's or an element's bounds, as a value -/
def a_tv (e : Nat × Int × Int) : Option aV := match e.1 with
  | 0 => some (a_I e.2.1 e.2.2)
  | 1 => some (1, e.2.1, e.2.2, none, [], [])
  | 2 => some (2, e.2.1, 0, none, [], [])
  | 3 => some (3, e.2.1, 0, none, [], [])
  | _ => none
/-- which kind of entry a type wants -/
def a_ty (ty : FieldType) (k : Nat) : Bool := match ty with
  | .int => Nat.beq k 0
  | .boolean => Nat.beq k 0
  | .long => Nat.beq k 1
  | .object _ => Nat.ble 2 k
  | .array _ => Nat.ble 2 k
  | _ => false
theorem a_tv_ok {c k : Nat} {e : Nat × Int × Int} {a : aV} {ty : FieldType} (he : a_e h c k e) (hv : a_tv e = some a) (ht : a_ty ty e.1 = true) : a_v σ h.1.length a (xh_get h c ty k) := by
  obtain ⟨ek, lo, hi⟩ := e
  unfold a_tv at hv
  unfold a_e at he
  dsimp only at hv he ht
  have hn : ∀ (hk : 2 ≤ ek), xh_get h c ty k = va_rf (xg none h.2.2.2 c k) := by
    intro hk
    cases ty <;> first | rfl | (simp [a_ty] at ht; done) | (have := xw_beq ht; omega)
  match ek, hv, he, ht, hn with
  | 0, hv, he, ht, _ =>
    cases hv
    have e2 : xh_get h c ty k = .int (xg 0 h.2.1 c k) := by cases ty <;> first | rfl | (cases ht; done)
    rw [e2]
    exact ⟨_, rfl, a_I_ok he.1 he.2⟩
  | 1, hv, he, ht, _ =>
    cases hv
    have e2 : xh_get h c ty k = .long (xg 0 h.2.2.1 c k) := by cases ty <;> first | rfl | (cases ht; done)
    rw [e2]
    exact ⟨_, rfl, he.1, he.2⟩
  | 2, hv, he, ht, hn =>
    cases hv
    rw [hn (by omega)]
    obtain ⟨q, e1, e2⟩ := he
    rw [e1]
    exact ⟨q, rfl, e2⟩
  | 3, hv, he, ht, hn =>
    cases hv
    rw [hn (by omega)]
    cases e1 : xg none h.2.2.2 c k with
    | none => exact Or.inl rfl
    | some q => exact Or.inr ⟨q, rfl, he q e1⟩
  | k + 4, hv, _, _, _ => cases hv
def a_gf (tb : aT) (F : List (aN × aV)) (t ci k : Nat) : Option aV := cond (decide (a_sh[t]? = some (0, ci)) && (Nat.blt k (xh_N ci) && a_ty (xh_ty ci k) (a_ent tb (0, ci) t k).1))
  (match a_kf F (t, k) with
    | some a => cond (Nat.beq (a_ent tb (0, ci) t k).1 0 && Nat.beq a.1 0) (some a) none
    | none => a_tv (a_ent tb (0, ci) t k)) none
theorem a_sh_at {t b : Nat} {s : Nat × Nat} (hi : a_inv tb h) (hb : a_r h.1.length t b) (hs : a_sh[t]? = some s) : h.1[b]? = some s := by
  obtain ⟨h1, h2⟩ := hb
  have e : h.1[b]? = some h.1[b] := List.getElem?_eq_getElem h1
  have := (hi.1 b _ e).1
  rw [h2, hs] at this
  cases this
  exact e
theorem a_gf_ok {F : List (aN × aV)} {t ci k b : Nat} {a : aV} (hi : a_inv tb h) (hF : ∀ q ∈ F, a_ob q.1.1 = true ∧ a_v σ h.1.length q.2 (.int (xg 0 h.2.1 q.1.1 q.1.2))) (hb : a_r h.1.length t b) (he : a_gf tb F t ci k = some a) : h.1[b]? = some (0, ci) ∧ a_v σ h.1.length a (xh_get h b (xh_ty ci k) k) := by
  unfold a_gf at he
  obtain ⟨h1, h2⟩ := xw_c he
  obtain ⟨h1, h3⟩ := xw_bb h1
  obtain ⟨h3, h4⟩ := xw_bb h3
  have h1 := of_decide_eq_true h1
  have h3 := Nat.blt_eq.mp h3
  have hsh := a_sh_at hi hb h1
  refine ⟨hsh, ?_⟩
  have g := (hi.1 b _ hsh).2 k h3
  rw [hb.2] at g
  split at h2
  · rename_i a' ha
    obtain ⟨h5, h6⟩ := xw_c h2
    cases h6
    obtain ⟨h5, h6⟩ := xw_bb h5
    have h5 := xw_beq h5
    obtain ⟨o1, o2⟩ := hF _ (a_kf_mem ha)
    have eb := a_r_ob o1 hb
    subst eb
    rw [h5] at h4
    have e2 : xh_get h b (xh_ty ci k) k = .int (xg 0 h.2.1 b k) := by
      revert h4
      cases xh_ty ci k <;> intro h4 <;> first | rfl | (cases h4; done)
    rw [e2]
    exact o2
  · exact a_tv_ok g h2 h4
end XAS
end
section
section XAT
variable {tb : aT} {σ : aN → Int} {h0 : xh_H} {md : List (Nat × Nat)} {A A' : aS} {lv : List (Nat × Value)} {st : List Value} {h : xh_H} {nL d pc n : Nat}
def a_mem (md : List (Nat × Nat)) (q : Nat × Nat) : Bool := match md with
  | [] => false
  | p :: t => cond (a_nq p q) true (a_mem t q)
theorem a_mem_ok {q : Nat × Nat} : ∀ {md : List (Nat × Nat)}, a_mem md q = true → q ∈ md := by
  intro md
  induction md with
  | nil => intro h; cases h
  | cons p t ih =>
    intro h
    unfold a_mem at h
    cases hb : a_nq p q with
    | true => rw [a_nq_ok hb]; exact List.mem_cons_self
    | false => rw [hb] at h; exact List.mem_cons_of_mem _ (ih h)
/-- an int field is written -/
def a_pf (tb : aT) (md : List (Nat × Nat)) (E : aF) (a : aV) (t ci k : Nat) : Bool := (a_ob t && !(a_jc t k)) && (decide (a_sh[t]? = some (0, ci)) && (Nat.blt k (xh_N ci) && (a_mem md (t, k) && (Nat.beq (a_ent tb (0, ci) t k).1 0 && (decide ((a_ent tb (0, ci) t k).2.1 ≤ (a_bd E a).1) && (decide ((a_bd E a).2 ≤ (a_ent tb (0, ci) t k).2.2) && (match xh_ty ci k with
  | .int => true
  | .boolean => decide (0 ≤ (a_bd E a).1) && decide ((a_bd E a).2 ≤ 1)
  | _ => false)))))))
theorem a_i01 {x : Int32} (h1 : 0 ≤ x.toInt) (h2 : x.toInt ≤ 1) : (decide (x = 0) || decide (x = 1)) = true := by
  have e0 : (0 : Int32).toInt = 0 := rfl
  have e1 : (1 : Int32).toInt = 1 := rfl
  rcases Int.lt_or_le x.toInt 1 with h | h
  · rw [show x = 0 from Int32.toInt_inj.mp (by omega)]; rfl
  · rw [show x = 1 from Int32.toInt_inj.mp (by omega)]; rfl
theorem a_pf_ok {a : aV} {t ci k b : Nat} {x : Int32} {q : List aV} {V : List Value} {r3 : Nat} (hs : a_s tb σ h0 md A lv st h) (hx : a_i σ a x) (hk : a.1 = 0) (hq : a_st σ h.1.length q V) (hb : a_r h.1.length t b) (he : a_pf tb md A.2.2.1 a t ci k = true) : h.1[b]? = some (0, ci) ∧ xe_put h b (xh_ty ci k) k (.int x) = some (xh_ui h b k x) ∧ a_s tb σ h0 md (A.1, q, A.2.2.1, ((t, k), a) :: A.2.2.2.filter (fun q => !(a_nq q.1 (t, k)))) lv V (xh_ui h b k x) := by
  obtain ⟨i1, i2, i3, i4, i5, i6, i7⟩ := hs
  have hbd := a_bd_ok i5 hx
  unfold a_pf at he
  obtain ⟨h1, h2⟩ := xw_bb he
  obtain ⟨h1, hjc⟩ := xw_bb h1
  rw [Bool.not_eq_true'] at hjc
  obtain ⟨h2, h3⟩ := xw_bb h2
  obtain ⟨h3, h4⟩ := xw_bb h3
  obtain ⟨h4, h5⟩ := xw_bb h4
  obtain ⟨h5, h6⟩ := xw_bb h5
  obtain ⟨h6, h7⟩ := xw_bb h6
  obtain ⟨h7, h8⟩ := xw_bb h7
  have h2 := of_decide_eq_true h2
  have h3 := Nat.blt_eq.mp h3
  have h4 := a_mem_ok h4
  have h5 := xw_beq h5
  have h6 := of_decide_eq_true h6
  have h7 := of_decide_eq_true h7
  have hsh := a_sh_at i1 hb h2
  have eb := a_r_ob h1 hb
  subst eb
  refine ⟨hsh, ?_, ?_, i2, i3, hq, i5, ?_, ?_⟩
  · revert h8
    unfold xe_put
    cases xh_ty ci k <;> intro h8 <;> first | rfl | (cases h8; done) | skip
    dsimp only at h8 ⊢
    obtain ⟨c1, c2⟩ := xw_bb h8
    have c1 := of_decide_eq_true c1
    have c2 := of_decide_eq_true c2
    rw [a_i01 (by omega) (by omega)]
    rfl
  · refine a_inv_ui (s := (0, ci)) (lo := (a_ent tb (0, ci) b k).2.1) (hi := (a_ent tb (0, ci) b k).2.2) i1 hsh hjc ?_ (by omega) (by omega)
    rw [hb.2]
    exact Prod.ext h5 rfl
  · intro p hp
    rcases List.mem_cons.mp hp with rfl | hp
    · refine ⟨h1, ?_⟩
      show a_v σ h.1.length a (.int (xg 0 (xh_up 0 h.2.1 b k x) b k))
      rw [xh_up_s]
      exact a_vi hk hx
    · obtain ⟨hp, hn⟩ := List.mem_filter.mp hp
      obtain ⟨o1, o2⟩ := i6 p hp
      refine ⟨o1, ?_⟩
      show a_v σ h.1.length p.2 (.int (xg 0 (xh_up 0 h.2.1 b k x) p.1.1 p.1.2))
      have hne : p.1 ≠ (b, k) := by
        rw [Bool.not_eq_true'] at hn
        exact a_nq_no hn
      by_cases e1 : p.1.1 = b
      · rw [e1] at o2 ⊢
        rw [xh_up_k (fun z => hne (Prod.ext e1 z))]
        exact o2
      · rw [xh_up_o e1]
        exact o2
  · intro c' k' hc hm
    show xg 0 (xh_up 0 h.2.1 b k x) c' k' = xg 0 h0.2.1 c' k'
    rw [← i7 c' k' hc hm]
    by_cases e1 : c' = b
    · subst e1
      exact xh_up_k (fun z => hm (by rw [z, a_key_ob h1]; exact h4))
    · rw [xh_up_o e1]
/-- an array's element is read or written: the place, and the element's bounds -/
def a_ix (tb : aT) (E : aF) (i : aV) (t k : Nat) : Option (Nat × Int × Int) := match a_sh[t]? with
  | some s => cond (Nat.beq s.1 k && (decide (0 ≤ (a_bd E i).1) && (decide ((a_bd E i).2 < (s.2 : Int)) && (!(Nat.beq k 0) && Nat.ble s.2 1000000)))) (some (a_ent tb s t 0)) none
  | none => none
theorem a_ent0 {s : Nat × Nat} {t k : Nat} (hk : ¬ s.1 = 0) : a_ent tb s t k = a_ent tb s t 0 := by
  unfold a_ent
  split
  · rename_i e; exact absurd e hk
  · rfl
theorem a_ix_ok {i : aV} {t k b : Nat} {x : Int32} {e : Nat × Int × Int} (hi : a_inv tb h) (hE : a_f σ A.2.2.1) (hx : a_i σ i x) (hb : a_r h.1.length t b) (he : a_ix tb A.2.2.1 i t k = some e) : ∃ m, h.1[b]? = some (k, m) ∧ xe_in x m = true ∧ a_e h b x.toNatClampNeg e ∧ a_ent tb (k, m) (a_tg b) x.toNatClampNeg = e ∧ ¬ k = 0 := by
  have hbd := a_bd_ok hE hx
  unfold a_ix at he
  split at he
  · rename_i s hs
    obtain ⟨h1, h2⟩ := xw_c he
    cases h2
    obtain ⟨h1, h2⟩ := xw_bb h1
    obtain ⟨h2, h3⟩ := xw_bb h2
    obtain ⟨h3, h4⟩ := xw_bb h3
    obtain ⟨h4, h5⟩ := xw_bb h4
    have h1 := xw_beq h1
    have h2 := of_decide_eq_true h2
    have h3 := of_decide_eq_true h3
    have h5 := xw_ble h5
    have hk0 : ¬ k = 0 := by
      intro z
      rw [z] at h4
      cases h4
    have hsh := a_sh_at hi hb hs
    obtain ⟨s1, s2⟩ := s
    dsimp only at h1 h3 h5
    subst h1
    obtain ⟨en, hl⟩ := a_nIx (y := x) (by omega)
    have hcl : x.toNatClampNeg = x.toInt.toNat := by
      rw [en, nI_clamp hl, ← en]
    have hent : a_ent tb (s1, s2) (a_tg b) x.toNatClampNeg = a_ent tb (s1, s2) t 0 := by rw [a_ent0 hk0, hb.2]
    refine ⟨s2, hsh, ?_, ?_, hent, hk0⟩
    · unfold xe_in
      have hz : ¬ x < 0 := by rw [Int32.lt_iff_toInt_lt]; show ¬ x.toInt < 0; omega
      rw [hcl, decide_eq_false hz, Nat.ble_eq.mpr (show x.toInt.toNat + 1 ≤ s2 by omega)]
      rfl
    · have g := (hi.1 b _ hsh).2 x.toNatClampNeg (by
        unfold a_sz
        dsimp only
        split
        · exact absurd rfl hk0
        · rw [hcl]; omega)
      rw [hent] at g
      exact g
  · cases he
/-- an array's element is written -/
theorem a_wr {b t : Nat} {k m : Nat} {x y : Int32} {lo hi : Int} (hb : a_r h.1.length t b) (hmd : (a_mem md (t, 0) && !(a_jc t 0)) = true) (hs : a_s tb σ h0 md A lv st h) (hsh : h.1[b]? = some (k, m)) (hk0 : ¬ k = 0) (he : a_ent tb (k, m) (a_tg b) x.toNatClampNeg = (0, lo, hi)) (h1 : lo ≤ y.toInt) (h2 : y.toInt ≤ hi) {q : List aV} {V : List Value} (hq : a_st σ h.1.length q V) : a_s tb σ h0 md (A.1, q, A.2.2) lv V (xh_ui h b x.toNatClampNeg y) := by
  obtain ⟨i1, i2, i3, i4, i5, i6, i7⟩ := hs
  have hne : ∀ c, a_ob c = true → c ≠ b := by
    intro c hc e
    subst e
    obtain ⟨g1, g2, g3⟩ := a_ob_lt c hc
    have g4 := (i1.1 c _ hsh).1
    rw [a_tg_lt g1] at g4
    unfold a_ob at hc
    rw [g4] at hc
    match k, hk0, hc with
    | k + 1, _, hc => cases hc
  obtain ⟨hmd, hjc⟩ := xw_bb hmd
  rw [Bool.not_eq_true'] at hjc
  have hjb : a_jc b x.toNatClampNeg = false := a_jc_ar (fun e => hne 14 rfl e.symm) (fun e => hne 39 rfl e.symm) (fun hlt => by rw [← hb.2, a_tg_lt hlt]) hjc
  refine ⟨a_inv_ui i1 hsh hjb he h1 h2, i2, i3, hq, i5, ?_, ?_⟩
  · intro p hp
    obtain ⟨o1, o2⟩ := i6 p hp
    refine ⟨o1, ?_⟩
    show a_v σ h.1.length p.2 (.int (xg 0 (xh_up 0 h.2.1 b x.toNatClampNeg y) p.1.1 p.1.2))
    rw [xh_up_o (hne _ o1)]
    exact o2
  · intro c' k' hc hm
    show xg 0 (xh_up 0 h.2.1 b x.toNatClampNeg y) c' k' = xg 0 h0.2.1 c' k'
    by_cases e : c' = b
    · subst e
      exfalso
      apply hm
      have e1 : t = c' := by rw [← hb.2, a_tg_lt (a_fz_lt hc)]
      have e2 : a_ob c' = false := by
        cases h8 : a_ob c' with
        | false => rfl
        | true => exact absurd rfl (hne c' h8)
      unfold a_key
      rw [e2, ← e1]
      exact a_mem_ok hmd
    · rw [xh_up_o e]
      exact i7 c' k' hc hm
def a_bin (f : aV → aV → aV) (A : aS) : Option (Nat × aS) := match a_pi A.2.1 with
  | some (y, q) => (match a_pi q with
    | some (x, q2) => some (1, A.1, f x y :: q2, A.2.2)
    | none => none)
  | none => none
theorem a_bin_ok {f : aV → aV → aV} (g : Int32 → Int32 → Int32) (hf : ∀ a b x y, a_i σ a x → a_i σ b y → a_i σ (f a b) (g x y) ∧ (f a b).1 = 0) (hs : a_s tb σ h0 md A lv st h) (he : a_bin f A = some (n, A')) : ∃ y x V, st = .int y :: .int x :: V ∧ n = 1 ∧ a_s tb σ h0 md A' lv (.int (g x y) :: V) h := by
  obtain ⟨i1, i2, i3, i4, i5, i6, i7⟩ := hs
  unfold a_bin at he
  split at he
  · rename_i b q hb
    split at he
    · rename_i a q2 ha
      cases he
      obtain ⟨y, V, rfl, hy, hq, _⟩ := a_pi_ok i4 hb
      obtain ⟨x, V, rfl, hx, hq, _⟩ := a_pi_ok hq ha
      obtain ⟨c1, c2⟩ := hf a b x y hx hy
      exact ⟨y, x, V, rfl, rfl, i1, i2, i3, ⟨a_vi c2 c1, hq⟩, i5, i6, i7⟩
    · cases he
  · cases he
/-- a long is written -/
theorem a_inv_ul {h : xh_H} {c k : Nat} {x : Int64} {s : Nat × Nat} {lo hi : Int} (hi0 : a_inv tb h) (hs : h.1[c]? = some s) (he : a_ent tb s (a_tg c) k = (1, lo, hi)) (h1 : lo ≤ x.toInt) (h2 : x.toInt ≤ hi) : a_inv tb (xh_ul h c k x) := by
  refine ⟨?_, hi0.2⟩
  intro c' s' hc'
  have hc2 : h.1[c']? = some s' := hc'
  obtain ⟨g1, g2⟩ := hi0.1 c' s' hc2
  refine ⟨g1, fun k' hk' => ?_⟩
  by_cases e : c' = c ∧ k' = k
  · obtain ⟨rfl, rfl⟩ := e
    rw [hs] at hc2
    cases hc2
    rw [he]
    show lo ≤ (xg 0 (xh_up 0 h.2.2.1 c' k' x) c' k').toInt ∧ (xg 0 (xh_up 0 h.2.2.1 c' k' x) c' k').toInt ≤ hi
    rw [xh_up_s]
    exact ⟨h1, h2⟩
  · have e2 : xg 0 (xh_ul h c k x).2.2.1 c' k' = xg 0 h.2.2.1 c' k' := by
      show xg 0 (xh_up 0 h.2.2.1 c k x) c' k' = xg 0 h.2.2.1 c' k'
      by_cases e1 : c' = c
      · subst e1
        exact xh_up_k (fun z => e ⟨rfl, z⟩)
      · rw [xh_up_o e1]
    have g := g2 k' hk'
    unfold a_e at g ⊢
    rw [e2]
    exact g
theorem a_wl {b : Nat} {k m : Nat} {x : Int32} {y : Int64} {lo hi : Int} (hs : a_s tb σ h0 md A lv st h) (hsh : h.1[b]? = some (k, m)) (he : a_ent tb (k, m) (a_tg b) x.toNatClampNeg = (1, lo, hi)) (h1 : lo ≤ y.toInt) (h2 : y.toInt ≤ hi) {q : List aV} {V : List Value} (hq : a_st σ h.1.length q V) : a_s tb σ h0 md (A.1, q, A.2.2) lv V (xh_ul h b x.toNatClampNeg y) := by
  obtain ⟨i1, i2, i3, i4, i5, i6, i7⟩ := hs
  exact ⟨a_inv_ul i1 hsh he h1 h2, i2, i3, hq, i5, i6, i7⟩
/-- a reference is written -/
theorem a_inv_ur {h : xh_H} {c k q : Nat} {s : Nat × Nat} {e : Nat × Int × Int} (hi0 : a_inv tb h) (hs : h.1[c]? = some s) (he : a_ent tb s (a_tg c) k = e) (hk : e.1 = 2 ∨ e.1 = 3) (hq : a_r h.1.length e.2.1.toNat q) : a_inv tb (xh_ur h c k (some q)) := by
  refine ⟨?_, hi0.2⟩
  intro c' s' hc'
  have hc2 : h.1[c']? = some s' := hc'
  obtain ⟨g1, g2⟩ := hi0.1 c' s' hc2
  refine ⟨g1, fun k' hk' => ?_⟩
  by_cases e0 : c' = c ∧ k' = k
  · obtain ⟨rfl, rfl⟩ := e0
    rw [hs] at hc2
    cases hc2
    rw [he]
    have ex : xg none (xh_ur h c' k' (some q)).2.2.2 c' k' = some q := by
      show xg none (xh_up none h.2.2.2 c' k' (some q)) c' k' = some q
      rw [xh_up_s]
    unfold a_e
    rcases hk with hk | hk
    · rw [hk]
      exact ⟨q, ex, hq⟩
    · rw [hk]
      intro q2 e2
      rw [ex] at e2
      cases e2
      exact hq
  · have e2 : xg none (xh_ur h c k (some q)).2.2.2 c' k' = xg none h.2.2.2 c' k' := by
      show xg none (xh_up none h.2.2.2 c k (some q)) c' k' = xg none h.2.2.2 c' k'
      by_cases e1 : c' = c
      · subst e1
        exact xh_up_k (fun z => e0 ⟨rfl, z⟩)
      · rw [xh_up_o e1]
    have g := g2 k' hk'
    unfold a_e at g ⊢
    rw [e2]
    exact g
def a_isl (ty : FieldType) : Bool := match ty with
  | .long => true
  | _ => false
def a_iso (ty : FieldType) : Bool := match ty with
  | .object _ => true
  | .array _ => true
  | _ => false
/-- a long field is written; a reference field -/
def a_pg (tb : aT) (a : aV) (t ci k : Nat) : Bool := decide (a_sh[t]? = some (0, ci)) && (Nat.blt k (xh_N ci) && ((Nat.beq a.1 1 && (Nat.beq (a_ent tb (0, ci) t k).1 1 && (decide ((a_ent tb (0, ci) t k).2.1 ≤ a.2.1) && (decide (a.2.2.1 ≤ (a_ent tb (0, ci) t k).2.2) && a_isl (xh_ty ci k))))) || (Nat.beq a.1 2 && ((Nat.beq (a_ent tb (0, ci) t k).1 2 || Nat.beq (a_ent tb (0, ci) t k).1 3) && (decide ((a_ent tb (0, ci) t k).2.1 = a.2.1) && a_iso (xh_ty ci k))))))
theorem a_pg_ok {a : aV} {t ci k b : Nat} {v : Value} {q : List aV} {V : List Value} (hs : a_s tb σ h0 md A lv st h) (hv : a_v σ h.1.length a v) (hq : a_st σ h.1.length q V) (hb : a_r h.1.length t b) (he : a_pg tb a t ci k = true) : h.1[b]? = some (0, ci) ∧ ∃ h', xe_put h b (xh_ty ci k) k v = some h' ∧ a_s tb σ h0 md (A.1, q, A.2.2) lv V h' := by
  obtain ⟨i1, i2, i3, i4, i5, i6, i7⟩ := hs
  unfold a_pg at he
  obtain ⟨c1, u1⟩ := xw_bb he
  obtain ⟨c2, c3⟩ := xw_bb u1
  have c1 := of_decide_eq_true c1
  have hsh := a_sh_at i1 hb c1
  refine ⟨hsh, ?_⟩
  rw [Bool.or_eq_true] at c3
  rcases c3 with c3 | c3
  · obtain ⟨d1, u2⟩ := xw_bb c3
    obtain ⟨d2, u3⟩ := xw_bb u2
    obtain ⟨d3, u4⟩ := xw_bb u3
    obtain ⟨d4, d5⟩ := xw_bb u4
    have d1 := xw_beq d1
    have d2 := xw_beq d2
    have d3 := of_decide_eq_true d3
    have d4 := of_decide_eq_true d4
    unfold a_v at hv
    rw [d1] at hv
    obtain ⟨x, rfl, g1, g2⟩ := hv
    refine ⟨xh_ul h b k x, ?_, ?_⟩
    · revert d5
      cases xh_ty ci k <;> intro d5 <;> first | rfl | (cases d5; done)
    · refine ⟨a_inv_ul (s := (0, ci)) (lo := (a_ent tb (0, ci) t k).2.1) (hi := (a_ent tb (0, ci) t k).2.2) i1 hsh ?_ (by omega) (by omega), i2, i3, hq, i5, i6, i7⟩
      rw [hb.2]
      exact Prod.ext d2 rfl
  · obtain ⟨d1, u2⟩ := xw_bb c3
    obtain ⟨d2, u3⟩ := xw_bb u2
    obtain ⟨d3, d5⟩ := xw_bb u3
    have d1 := xw_beq d1
    have d3 := of_decide_eq_true d3
    unfold a_v at hv
    rw [d1] at hv
    obtain ⟨x, rfl, g1⟩ := hv
    refine ⟨xh_ur h b k (some x), ?_, ?_⟩
    · revert d5
      cases xh_ty ci k <;> intro d5 <;> first | rfl | (cases d5; done)
    · refine ⟨a_inv_ur (s := (0, ci)) (e := a_ent tb (0, ci) t k) i1 hsh (by rw [hb.2]) ?_ (by rw [d3]; exact g1), i2, i3, hq, i5, i6, i7⟩
      rw [Bool.or_eq_true] at d2
      rcases d2 with d2 | d2
      · exact Or.inl (xw_beq d2)
      · exact Or.inr (xw_beq d2)
end XAT
end
section
section XAU
variable {tb : aT} {σ : aN → Int} {h0 : xh_H} {md : List (Nat × Nat)} {A A' : aS} {lv : List (Nat × Value)} {st : List Value} {h : xh_H} {nL d pc n : Nat}
def a_lt : aV := (1, -9223372036854775808, 9223372036854775807, none, [], [])
theorem a_lt_ok {n : Nat} (x : Int64) : a_v σ n a_lt (.long x) := by
  have h1 := x.le_toInt
  have h2 := x.toInt_lt
  exact ⟨x, rfl, by show (-9223372036854775808 : Int) ≤ x.toInt; omega, by show x.toInt ≤ 9223372036854775807; omega⟩
def a_pl (S : List aV) : Option (aV × List aV) := match S with
  | a :: q => cond (Nat.beq a.1 1) (some (a, q)) none
  | [] => none
theorem a_pl_ok {n : Nat} {S : List aV} {a : aV} {q : List aV} (h : a_st σ n S st) (he : a_pl S = some (a, q)) : ∃ (x : Int64) (V : List Value), st = .long x :: V ∧ (a.2.1 ≤ x.toInt ∧ x.toInt ≤ a.2.2.1) ∧ a_st σ n q V := by
  unfold a_pl at he
  match S, st, h, he with
  | b :: S, v :: V, h, he =>
    obtain ⟨h1, h2⟩ := xw_c he
    cases h2
    have h1 := xw_beq h1
    obtain ⟨g1, g2⟩ := h
    unfold a_v at g1
    rw [h1] at g1
    obtain ⟨x, rfl, g1⟩ := g1
    exact ⟨x, V, rfl, g1, g2⟩
def a_ll (a : aV) (A : aS) : Option (Nat × aS) := match a_pl A.2.1 with
  | some (_, q) => (match a_pl q with
    | some (_, q2) => some (1, A.1, a :: q2, A.2.2)
    | none => none)
  | none => none
theorem a_ll_ok {a : aV} (hs : a_s tb σ h0 md A lv st h) (he : a_ll a A = some (n, A')) : ∃ (y x : Int64) (V : List Value), st = .long y :: .long x :: V ∧ n = 1 ∧ (∀ b q, A.2.1 = b :: q → b.2.1 ≤ y.toInt ∧ y.toInt ≤ b.2.2.1) ∧ ∀ v, a_v σ h.1.length a v → a_s tb σ h0 md A' lv (v :: V) h := by
  obtain ⟨i1, i2, i3, i4, i5, i6, i7⟩ := hs
  unfold a_ll at he
  split at he
  · rename_i b q hb
    split at he
    · rename_i a2 q2 ha
      cases he
      obtain ⟨y, V, rfl, hy, hq⟩ := a_pl_ok i4 hb
      obtain ⟨x, V, rfl, hx, hq⟩ := a_pl_ok hq ha
      refine ⟨y, x, V, rfl, rfl, ?_, fun v hv => ⟨i1, i2, i3, ⟨hv, hq⟩, i5, i6, i7⟩⟩
      intro b2 q3 e
      unfold a_pl at hb
      rw [e] at hb
      obtain ⟨_, g⟩ := xw_c hb
      cases g
      exact hy
    · cases he
  · cases he
/-- a long is stored -/
def a_sw (i len nL : Nat) (A : aS) : Option (Nat × aS) := match A.2.1 with
  | a :: q => cond (Nat.beq a.1 1 && Nat.ble (i + 2) nL) (some (len, (i, a) :: A.1.filter (fun q => !(Nat.beq q.1 i) && (!(Nat.beq q.1 (i + 1)) && !(Nat.beq (q.1 + 1) i && Nat.beq q.2.1 1))), q, A.2.2)) none
  | [] => none
theorem a_sw_ok {i len : Nat} (hs : a_s tb σ h0 md A lv st h) (he : a_sw i len nL A = some (n, A')) : ∃ lv' st' h', xe_st2 i len pc nL lv st h 0 0 = some (pc + n, lv', st', h', 0, 0) ∧ a_s tb σ h0 md A' lv' st' h' := by
  obtain ⟨i1, i2, i3, i4, i5, i6, i7⟩ := hs
  unfold a_sw at he
  split at he
  · rename_i a q ha
    obtain ⟨h1, h2⟩ := xw_c he
    cases h2
    obtain ⟨h1, h3⟩ := xw_bb h1
    rw [ha] at i4
    match st, i4 with
    | v :: V, i4 =>
      refine ⟨xl_2 lv i v, V, h, ?_, i1, i2, ?_, i4.2, i5, i6, i7⟩
      · unfold xe_st2
        dsimp only
        rw [a_kk_ok (k := 1) (by decide) i4.1 h1, h3]
        rfl
      · intro p hp
        rcases List.mem_cons.mp hp with rfl | hp
        · refine ⟨v, ?_, i4.1⟩
          unfold xl_2 xl_get
          rw [Nat.beq_refl]
          rfl
        · obtain ⟨hp, hf⟩ := List.mem_filter.mp hp
          obtain ⟨w, g1, g2⟩ := i3 p hp
          refine ⟨w, ?_, g2⟩
          obtain ⟨f1, f2⟩ := xw_bb hf
          obtain ⟨f2, f3⟩ := xw_bb f2
          rw [Bool.not_eq_true'] at f1 f2 f3
          have n1 : p.1 ≠ i := by intro e; rw [e, Nat.beq_refl] at f1; cases f1
          have n2 : p.1 ≠ i + 1 := by intro e; rw [e, Nat.beq_refl] at f2; cases f2
          unfold xl_2 xl_get
          have hb : Nat.beq i p.1 = false := by
            rw [Bool.eq_false_iff]
            intro z
            exact n1 (Nat.eq_of_beq_eq_true z).symm
          rw [hb]
          refine xl_get_f ?_ g1
          have e1 : (p.1 == i) = false := by rw [beq_eq_false_iff_ne]; exact n1
          have e2 : (p.1 == i + 1) = false := by rw [beq_eq_false_iff_ne]; exact n2
          dsimp only
          rw [e1, e2]
          cases hc : (p.1 + 1 == i) with
          | false => rfl
          | true =>
            have e3 : Nat.beq (p.1 + 1) i = true := by rw [beq_iff_eq] at hc; rw [hc]; exact Nat.beq_refl i
            have hk : Nat.beq p.2.1 1 = false := by rw [e3] at f3; exact f3
            rw [a_v_cat g2 hk]
            rfl
  · cases he
theorem lg_cmp_b (x y : Int64) : -1 ≤ (lg_cmp x y).toInt ∧ (lg_cmp x y).toInt ≤ 1 := by
  unfold lg_cmp
  split
  · decide
  · split <;> decide
theorem i2b_b (x : Int32) : -128 ≤ (x.toInt8.toInt32).toInt ∧ (x.toInt8.toInt32).toInt ≤ 127 := by
  rw [Int8.toInt_toInt32]
  have h1 := x.toInt8.le_toInt
  have h2 := x.toInt8.toInt_lt
  omega
theorem l_ne0 {y : Int64} {b : aV} (hc : (decide (0 < b.2.1) || decide (b.2.2.1 < 0)) = true) (h : b.2.1 ≤ y.toInt ∧ y.toInt ≤ b.2.2.1) : decide (y = 0) = false := by
  rw [decide_eq_false_iff_not]
  intro e
  rw [e] at h
  rw [Bool.or_eq_true, decide_eq_true_eq, decide_eq_true_eq] at hc
  have e0 : (0 : Int64).toInt = 0 := rfl
  omega
def a_cst (x : Int32) (len : Nat) (A : aS) : Option (Nat × aS) := some (len, A.1, a_I x.toInt x.toInt :: A.2.1, A.2.2)
/-- ONE INSTRUCTION, in bounds -/
def a_stp (tb : aT) (md : List (Nat × Nat)) (nL : Nat) (r : xr_R) (A : aS) : Option (Nat × aS) := match r.1 with
  | .iconst n => a_cst (Int32.ofInt n) 1 A
  | .bipush n => a_cst (Int8.ofInt n).toInt32 2 A
  | .sipush n => a_cst (Int16.ofInt n).toInt32 3 A
  | .ldc_w _ => a_cst (Int32.ofNat r.2.2.1) 3 A
  | .ldc _ => (match r.2.2.2.1 with
    | 0 => a_cst (Int32.ofNat r.2.2.1) 2 A
    | _ => some (2, A.1, (4, (r.2.2.1 : Int), 0, none, [], []) :: A.2.1, A.2.2))
  | .iload_n k => a_ld 0 k 1 A
  | .iload k => a_ld 0 k 2 A
  | .aload_n k => a_ld 2 k 1 A
  | .aload k => a_ld 2 k 2 A
  | .istore_n k => a_sv 0 k 1 nL A
  | .istore k => a_sv 0 k 2 nL A
  | .astore_n k => a_sv 2 k 1 nL A
  | .astore k => a_sv 2 k 2 nL A
  | .iinc i c => (match a_lk A.1 i with
    | some a => cond (Nat.beq a.1 0 && Nat.ble (i + 1) nL) (some (3, a_set A.1 i (a_sum a.2.2.2.1 none (a_bd A.2.2.1 a) ((Int32.ofInt c).toInt, (Int32.ofInt c).toInt)), A.2)) none
    | none => none)
  | .iadd => a_bin (fun x y => a_sum x.2.2.2.1 y.2.2.2.1 (a_bd A.2.2.1 x) (a_bd A.2.2.1 y)) A
  | .isub => a_bin (fun x y => a_dif x.2.2.2.1 (a_bd A.2.2.1 x) (a_bd A.2.2.1 y)) A
  | .imul => a_bin (fun x y => a_prd (a_bd A.2.2.1 x) (a_bd A.2.2.1 y)) A
  | .iand => a_bin (fun x y => a_wf (a_and (a_bd A.2.2.1 x) (a_bd A.2.2.1 y)) (a_nz A.2.2.1 x ++ a_nz A.2.2.1 y)) A
  | .ior => a_bin (fun x y => a_or (a_bd A.2.2.1 x) (a_bd A.2.2.1 y)) A
  | .ixor => a_bin (fun x y => a_or (a_bd A.2.2.1 x) (a_bd A.2.2.1 y)) A
  | .ishl => a_bin (fun x y => a_shl (a_bd A.2.2.1 x) (a_bd A.2.2.1 y)) A
  | .ishr => a_bin (fun x y => a_wf (a_shr (a_bd A.2.2.1 x) (a_bd A.2.2.1 y)) (a_nz A.2.2.1 x)) A
  | .dup => (match A.2.1 with
    | a :: q => cond (!(Nat.beq a.1 1)) (some (1, A.1, a :: a :: q, A.2.2)) none
    | [] => none)
  | .pop => (match A.2.1 with
    | a :: q => cond (!(Nat.beq a.1 1)) (some (1, A.1, q, A.2.2)) none
    | [] => none)
  | .dup2 => (match A.2.1 with
    | a :: b :: q => cond (!(Nat.beq a.1 1) && !(Nat.beq b.1 1)) (some (1, A.1, a :: b :: a :: b :: q, A.2.2)) none
    | _ => none)
  | .dup_x2 => (match A.2.1 with
    | a :: b :: c :: q => cond (!(Nat.beq a.1 1) && (!(Nat.beq b.1 1) && !(Nat.beq c.1 1))) (some (1, A.1, a :: b :: c :: a :: q, A.2.2)) none
    | _ => none)
  | .getfield _ => (match a_pr A.2.1 with
    | some (t, q) => (match a_gf tb A.2.2.2 t r.2.2.1 r.2.2.2.1 with
      | some a => some (3, A.1, a :: q, A.2.2)
      | none => none)
    | none => none)
  | .putfield _ => (match a_pi A.2.1 with
    | some (a, q) => (match a_pr q with
      | some (t, q2) => cond (a_pf tb md A.2.2.1 a t r.2.2.1 r.2.2.2.1) (some (3, A.1, q2, A.2.2.1, ((t, r.2.2.2.1), a) :: A.2.2.2.filter (fun q => !(a_nq q.1 (t, r.2.2.2.1))))) none
      | none => none)
    | none => (match A.2.1 with
      | a :: q => (match a_pr q with
        | some (t, q2) => cond (a_pg tb a t r.2.2.1 r.2.2.2.1) (some (3, A.1, q2, A.2.2)) none
        | none => none)
      | [] => none))
  | .iaload => (match a_pi A.2.1 with
    | some (i, q) => (match a_pr q with
      | some (t, q2) => (match a_ix tb A.2.2.1 i t 1 with
        | some e => cond (Nat.beq e.1 0) (some (1, A.1, a_I e.2.1 e.2.2 :: q2, A.2.2)) none
        | none => none)
      | none => none)
    | none => none)
  | .baload => (match a_pi A.2.1 with
    | some (i, q) => (match a_pr q with
      | some (t, q2) => (match a_ix tb A.2.2.1 i t 3 with
        | some e => cond (Nat.beq e.1 0) (some (1, A.1, a_I e.2.1 e.2.2 :: q2, A.2.2)) none
        | none => (match a_ix tb A.2.2.1 i t 2 with
          | some e => cond (Nat.beq e.1 0) (some (1, A.1, a_I e.2.1 e.2.2 :: q2, A.2.2)) none
          | none => none))
      | none => none)
    | none => none)
  | .iastore => (match a_pi A.2.1 with
    | some (a, q) => (match a_pi q with
      | some (i, q2) => (match a_pr q2 with
        | some (t, q3) => (match a_ix tb A.2.2.1 i t 1 with
          | some e => cond (Nat.beq e.1 0 && (decide (e.2.1 ≤ (a_bd A.2.2.1 a).1) && (decide ((a_bd A.2.2.1 a).2 ≤ e.2.2) && (a_mem md (t, 0) && !(a_jc t 0))))) (some (1, A.1, q3, A.2.2)) none
          | none => none)
        | none => none)
      | none => none)
    | none => none)
  | .bastore => (match a_pi A.2.1 with
    | some (a, q) => (match a_pi q with
      | some (i, q2) => (match a_pr q2 with
        | some (t, q3) => (match a_ix tb A.2.2.1 i t 3 with
          | some e => cond (Nat.beq e.1 0 && (decide (e.2.1 ≤ 0) && (decide (1 ≤ e.2.2) && (a_mem md (t, 0) && !(a_jc t 0))))) (some (1, A.1, q3, A.2.2)) none
          | none => (match a_ix tb A.2.2.1 i t 2 with
            | some e => cond (Nat.beq e.1 0 && (decide (e.2.1 ≤ -128) && (decide (127 ≤ e.2.2) && (a_mem md (t, 0) && !(a_jc t 0))))) (some (1, A.1, q3, A.2.2)) none
            | none => none))
        | none => none)
      | none => none)
    | none => none)
  | .arraylength => (match a_pr A.2.1 with
    | some (t, q) => (match a_sh[t]? with
      | some (k + 1, m) => cond (Nat.ble (k + 1) 5) (some (1, A.1, a_I (Int32.ofNat m).toInt (Int32.ofNat m).toInt :: q, A.2.2)) none
      | _ => none)
    | none => none)
  | .lconst c => some (1, A.1, (1, (Int64.ofNat (c : Nat)).toInt, (Int64.ofNat (c : Nat)).toInt, none, [], []) :: A.2.1, A.2.2)
  | .ldc2_w _ => some (3, A.1, (1, (Int64.ofNat r.2.2.1).toInt, (Int64.ofNat r.2.2.1).toInt, none, [], []) :: A.2.1, A.2.2)
  | .lload_n k => a_ld 1 k 1 A
  | .lload k => a_ld 1 k 2 A
  | .lstore_n k => a_sw k 1 nL A
  | .lstore k => a_sw k 2 nL A
  | .ladd => a_ll a_lt A
  | .lsub => a_ll a_lt A
  | .lmul => a_ll a_lt A
  | .land => a_ll a_lt A
  | .lor => a_ll a_lt A
  | .lcmp => a_ll (a_I (-1) 1) A
  | .ldiv => (match A.2.1 with
    | y :: _ => cond (decide (0 < y.2.1) || decide (y.2.2.1 < 0)) (a_ll a_lt A) none
    | [] => none)
  | .lrem => (match A.2.1 with
    | y :: _ => cond (decide (0 < y.2.1) || decide (y.2.2.1 < 0)) (a_ll a_lt A) none
    | [] => none)
  | .lushr => (match a_pi A.2.1 with
    | some (_, q) => (match a_pl q with
      | some (_, q2) => some (1, A.1, a_lt :: q2, A.2.2)
      | none => none)
    | none => none)
  | .lshl => (match a_pi A.2.1 with
    | some (_, q) => (match a_pl q with
      | some (_, q2) => some (1, A.1, a_lt :: q2, A.2.2)
      | none => none)
    | none => none)
  | .i2l => (match a_pi A.2.1 with
    | some (x, q) => some (1, A.1, (1, (a_bd A.2.2.1 x).1, (a_bd A.2.2.1 x).2, none, [], []) :: q, A.2.2)
    | none => none)
  | .l2i => (match a_pl A.2.1 with
    | some (_, q) => some (1, A.1, a_top :: q, A.2.2)
    | none => none)
  | .i2b => (match a_pi A.2.1 with
    | some (_, q) => some (1, A.1, a_I (-128) 127 :: q, A.2.2)
    | none => none)
  | .iushr => a_bin (fun _ _ => a_top) A
  | .laload => (match a_pi A.2.1 with
    | some (i, q) => (match a_pr q with
      | some (t, q2) => (match a_ix tb A.2.2.1 i t 4 with
        | some e => cond (Nat.beq e.1 1) (some (1, A.1, (1, e.2.1, e.2.2, none, [], []) :: q2, A.2.2)) none
        | none => none)
      | none => (match q with
        | f :: q2 => cond (Nat.beq f.1 4 && (decide (f.2.1 = 1) && (decide (0 ≤ (a_bd A.2.2.1 i).1) && decide ((a_bd A.2.2.1 i).2 < 13)))) (some (1, A.1, a_lt :: q2, A.2.2)) none
        | [] => none))
    | none => none)
  | .getstatic _ => some (3, A.1, (4, 1, 0, none, [], []) :: A.2.1, A.2.2)
  | .lastore => (match a_pl A.2.1 with
    | some (a, q) => (match a_pi q with
      | some (i, q2) => (match a_pr q2 with
        | some (t, q3) => (match a_ix tb A.2.2.1 i t 4 with
          | some e => cond (Nat.beq e.1 1 && (decide (e.2.1 ≤ a.2.1) && decide (a.2.2.1 ≤ e.2.2))) (some (1, A.1, q3, A.2.2)) none
          | none => none)
        | none => none)
      | none => none)
    | none => none)
  | .aaload => (match a_pi A.2.1 with
    | some (i, q) => (match a_pr q with
      | some (t, q2) => (match a_ix tb A.2.2.1 i t 5 with
        | some e => cond (Nat.beq e.1 3) (some (1, A.1, (3, e.2.1, 0, none, [], []) :: q2, A.2.2)) none
        | none => none)
      | none => none)
    | none => none)
  | _ => none
theorem a_s_push {a : aV} {v : Value} (hs : a_s tb σ h0 md A lv st h) (hv : a_v σ h.1.length a v) : a_s tb σ h0 md (A.1, a :: A.2.1, A.2.2) lv (v :: st) h := by
  obtain ⟨i1, i2, i3, i4, i5, i6, i7⟩ := hs
  exact ⟨i1, i2, i3, ⟨hv, i4⟩, i5, i6, i7⟩
theorem a_cst_ok {x : Int32} {len : Nat} (hs : a_s tb σ h0 md A lv st h) (he : a_cst x len A = some (n, A')) : n = len ∧ a_s tb σ h0 md A' lv (.int x :: st) h := by
  unfold a_cst at he
  cases he
  exact ⟨rfl, a_s_push hs (a_vi rfl (a_I_ok (Int.le_refl _) (Int.le_refl _)))⟩
theorem a_sum0 {o1 o2 : Option (aN × Int)} {p q : Int × Int} : (a_sum o1 o2 p q).1 = 0 := by
  unfold a_sum
  cases a_in (p.1 + q.1, p.2 + q.2) <;> rfl
theorem a_dif0 {o1 : Option (aN × Int)} {p q : Int × Int} : (a_dif o1 p q).1 = 0 := by
  unfold a_dif
  cases a_in (p.1 - q.2, p.2 - q.1) <;> rfl
theorem a_cond0 {c : Bool} {a b : aV} (h1 : a.1 = 0) (h2 : b.1 = 0) : (cond c a b).1 = 0 := by
  cases c
  · exact h2
  · exact h1
theorem vp_nar8 (x : Int32) : -128 ≤ (vp_nar .byte x).toInt ∧ (vp_nar .byte x).toInt ≤ 127 := i2b_b x
theorem vp_nar01 (x : Int32) : 0 ≤ (vp_nar .boolean x).toInt ∧ (vp_nar .boolean x).toInt ≤ 1 := by
  have h : vp_nar .boolean x = x &&& 1 := rfl
  rw [h]
  exact ar_and1 (x := x) (y := 1) (by decide)
theorem a_xin {x : Int32} {m : Nat} (h1 : 0 ≤ x.toInt) (h2 : x.toInt < (m : Int)) : xe_in x m = true := by
  obtain ⟨en, hl⟩ := a_nIx (y := x) h1
  have hcl : x.toNatClampNeg = x.toInt.toNat := by rw [en, nI_clamp hl, ← en]
  unfold xe_in
  have hz : ¬ x < 0 := by rw [Int32.lt_iff_toInt_lt]; show ¬ x.toInt < 0; omega
  rw [hcl, decide_eq_false hz, Nat.ble_eq.mpr (show x.toInt.toNat + 1 ≤ m by omega)]
  rfl
set_option maxHeartbeats 4000000 in
theorem a_stp_ok {r : xr_R} (hs : a_s tb σ h0 md A lv st h) (he : a_stp tb md nL r A = some (n, A')) : ∃ lv' st' h', xe_2 none nL r d pc lv st h 0 0 = some (pc + n, lv', st', h', 0, 0) ∧ a_s tb σ h0 md A' lv' st' h' := by
  have hs0 := hs
  obtain ⟨i1, i2, i3, i4, i5, i6, i7⟩ := hs0
  obtain ⟨i, r1, r2, r3, r4, r5⟩ := r
  have lift : ∀ (o : xs_S), xe_1 nL (i, r1, r2, r3, r4, r5) pc lv st h 0 0 = some o → xe_2 none nL (i, r1, r2, r3, r4, r5) d pc lv st h 0 0 = some o := by
    intro o ho
    unfold xe_2
    rw [ho]
  cases i
  case iconst c => obtain ⟨rfl, hs'⟩ := a_cst_ok hs he; exact ⟨_, _, _, lift _ rfl, hs'⟩
  case bipush c => obtain ⟨rfl, hs'⟩ := a_cst_ok hs he; exact ⟨_, _, _, lift _ rfl, hs'⟩
  case sipush c => obtain ⟨rfl, hs'⟩ := a_cst_ok hs he; exact ⟨_, _, _, lift _ rfl, hs'⟩
  case ldc_w c => obtain ⟨rfl, hs'⟩ := a_cst_ok hs he; exact ⟨_, _, _, lift _ rfl, hs'⟩
  case ldc c =>
    match r3, he, lift with
    | 0, he, lift => obtain ⟨rfl, hs'⟩ := a_cst_ok hs he; exact ⟨_, _, _, lift _ rfl, hs'⟩
    | k + 1, he, lift =>
      cases he
      exact ⟨_, _, _, lift _ rfl, a_s_push hs rfl⟩
  case iload_n k => obtain ⟨a, b, c, g1, g2⟩ := a_ld_ok (pc := pc) (by decide) hs he; exact ⟨a, b, c, lift _ g1, g2⟩
  case iload k => obtain ⟨a, b, c, g1, g2⟩ := a_ld_ok (pc := pc) (by decide) hs he; exact ⟨a, b, c, lift _ g1, g2⟩
  case aload_n k => obtain ⟨a, b, c, g1, g2⟩ := a_ld_ok (pc := pc) (by decide) hs he; exact ⟨a, b, c, lift _ g1, g2⟩
  case aload k => obtain ⟨a, b, c, g1, g2⟩ := a_ld_ok (pc := pc) (by decide) hs he; exact ⟨a, b, c, lift _ g1, g2⟩
  case istore_n k => obtain ⟨a, b, c, g1, g2⟩ := a_sv_ok (pc := pc) (by decide) hs he; exact ⟨a, b, c, lift _ g1, g2⟩
  case istore k => obtain ⟨a, b, c, g1, g2⟩ := a_sv_ok (pc := pc) (by decide) hs he; exact ⟨a, b, c, lift _ g1, g2⟩
  case astore_n k => obtain ⟨a, b, c, g1, g2⟩ := a_sv_ok (pc := pc) (by decide) hs he; exact ⟨a, b, c, lift _ g1, g2⟩
  case astore k => obtain ⟨a, b, c, g1, g2⟩ := a_sv_ok (pc := pc) (by decide) hs he; exact ⟨a, b, c, lift _ g1, g2⟩
  case iinc i c =>
    unfold a_stp at he
    dsimp only at he
    split at he
    · rename_i a ha
      obtain ⟨g1, g2⟩ := xw_c he
      cases g2
      obtain ⟨g1, g3⟩ := xw_bb g1
      have g1 := xw_beq g1
      obtain ⟨v, w1, w2⟩ := i3 _ (a_lk_mem ha)
      unfold a_v at w2
      rw [g1] at w2
      obtain ⟨x, rfl, w2⟩ := w2
      have hsum := a_sum_ok (σ := σ) (b := a_I (Int32.ofInt c).toInt (Int32.ofInt c).toInt) i5 w2 (a_I_ok (Int.le_refl _) (Int.le_refl _))
      refine ⟨xl_1 lv i (.int (x + Int32.ofInt c)), st, h, lift _ ?_, i1, i2, a_set_ok i3 (a_vi a_sum0 hsum), i4, i5, i6, i7⟩
      unfold xe_1
      try dsimp only
      rw [w1]
      try dsimp only
      rw [g3]
      rfl
    · cases he
  case iadd => obtain ⟨y, x, V, rfl, rfl, g⟩ := a_bin_ok (fun x y => x + y) (fun a b x y hx hy => ⟨a_sum_ok i5 hx hy, a_sum0⟩) hs he; exact ⟨_, _, _, lift _ rfl, g⟩
  case isub => obtain ⟨y, x, V, rfl, rfl, g⟩ := a_bin_ok (fun x y => x - y) (fun a b x y hx hy => ⟨a_dif_ok i5 hx hy, a_dif0⟩) hs he; exact ⟨_, _, _, lift _ rfl, g⟩
  case imul => obtain ⟨y, x, V, rfl, rfl, g⟩ := a_bin_ok (fun x y => x * y) (fun a b x y hx hy => ⟨a_prd_ok i5 hx hy, a_cond0 rfl rfl⟩) hs he; exact ⟨_, _, _, lift _ rfl, g⟩
  case iand => obtain ⟨y, x, V, rfl, rfl, g⟩ := a_bin_ok (fun x y => x &&& y) (fun a b x y hx hy => ⟨a_wf_ok (a_and_ok i5 hx hy) (fun z => a_f_app (a_nz_ok i5 hx (a_and_nz z).1) (a_nz_ok i5 hy (a_and_nz z).2)), a_cond0 (a_cond0 rfl rfl) (a_cond0 rfl rfl)⟩) hs he; exact ⟨_, _, _, lift _ rfl, g⟩
  case ior => obtain ⟨y, x, V, rfl, rfl, g⟩ := a_bin_ok (fun x y => x ||| y) (fun a b x y hx hy => ⟨(a_or_ok i5 hx hy).1, a_cond0 rfl rfl⟩) hs he; exact ⟨_, _, _, lift _ rfl, g⟩
  case ixor => obtain ⟨y, x, V, rfl, rfl, g⟩ := a_bin_ok (fun x y => x ^^^ y) (fun a b x y hx hy => ⟨(a_or_ok i5 hx hy).2, a_cond0 rfl rfl⟩) hs he; exact ⟨_, _, _, lift _ rfl, g⟩
  case ishl => obtain ⟨y, x, V, rfl, rfl, g⟩ := a_bin_ok (fun x y => x <<< (y &&& 31)) (fun a b x y hx hy => ⟨a_shl_ok i5 hx hy, a_cond0 rfl rfl⟩) hs he; exact ⟨_, _, _, lift _ rfl, g⟩
  case ishr => obtain ⟨y, x, V, rfl, rfl, g⟩ := a_bin_ok (fun x y => x >>> (y &&& 31)) (fun a b x y hx hy => ⟨a_wf_ok (a_shr_ok i5 hx hy) (fun z => a_nz_ok i5 hx (a_shr_nz z)), a_cond0 (a_cond0 rfl rfl) rfl⟩) hs he; exact ⟨_, _, _, lift _ rfl, g⟩
  case dup =>
    unfold a_stp at he
    dsimp only at he
    split at he
    · rename_i a q ha
      obtain ⟨g1, g2⟩ := xw_c he
      cases g2
      rw [Bool.not_eq_true'] at g1
      rw [ha] at i4
      match st, i4, lift with
      | v :: V, i4, lift =>
        refine ⟨lv, v :: v :: V, h, lift _ ?_, i1, i2, i3, ⟨i4.1, i4⟩, i5, i6, i7⟩
        unfold xe_1
        try dsimp only
        rw [a_v_cat i4.1 g1]
        rfl
    · cases he
  case pop =>
    unfold a_stp at he
    dsimp only at he
    split at he
    · rename_i a q ha
      obtain ⟨g1, g2⟩ := xw_c he
      cases g2
      rw [Bool.not_eq_true'] at g1
      rw [ha] at i4
      match st, i4, lift with
      | v :: V, i4, lift =>
        refine ⟨lv, V, h, lift _ ?_, i1, i2, i3, i4.2, i5, i6, i7⟩
        unfold xe_1
        try dsimp only
        rw [a_v_cat i4.1 g1]
        rfl
    · cases he
  case dup2 =>
    unfold a_stp at he
    dsimp only at he
    split at he
    · rename_i a b q ha
      obtain ⟨g1, g2⟩ := xw_c he
      cases g2
      obtain ⟨g1, g3⟩ := xw_bb g1
      rw [Bool.not_eq_true'] at g1 g3
      rw [ha] at i4
      match st, i4, lift with
      | v :: w :: V, i4, lift =>
        refine ⟨lv, v :: w :: v :: w :: V, h, lift _ ?_, i1, i2, i3, ⟨i4.1, i4.2.1, i4⟩, i5, i6, i7⟩
        unfold xe_1
        try dsimp only
        rw [a_v_cat i4.1 g1, a_v_cat i4.2.1 g3]
        rfl
    · cases he
  case dup_x2 =>
    unfold a_stp at he
    dsimp only at he
    split at he
    · rename_i a b c q ha
      obtain ⟨g1, g2⟩ := xw_c he
      cases g2
      obtain ⟨g1, g3⟩ := xw_bb g1
      obtain ⟨g3, g4⟩ := xw_bb g3
      rw [Bool.not_eq_true'] at g1 g3 g4
      rw [ha] at i4
      match st, i4, lift with
      | v :: w :: z :: V, i4, lift =>
        refine ⟨lv, v :: w :: z :: v :: V, h, lift _ ?_, i1, i2, i3, ⟨i4.1, i4.2.1, i4.2.2.1, i4.1, i4.2.2.2⟩, i5, i6, i7⟩
        unfold xe_1
        try dsimp only
        rw [a_v_cat i4.1 g1, a_v_cat i4.2.1 g3, a_v_cat i4.2.2.1 g4]
        rfl
    · cases he
  case getfield c =>
    unfold a_stp at he
    dsimp only at he
    split at he
    · rename_i t q hq
      split at he
      · rename_i a ha
        cases he
        obtain ⟨b, V, rfl, hb, hV⟩ := a_pr_ok i4 hq
        obtain ⟨g1, g2⟩ := a_gf_ok i1 i6 hb ha
        refine ⟨lv, xh_get h b (xh_ty r2 r3) r3 :: V, h, lift _ ?_, i1, i2, i3, ⟨g2, hV⟩, i5, i6, i7⟩
        unfold xe_1 xp_r
        try dsimp only
        rw [g1]
        show (cond (Nat.beq r2 r2) _ _) = _
        rw [Nat.beq_refl]
        rfl
      · cases he
    · cases he
  case putfield c =>
    unfold a_stp at he
    dsimp only at he
    split at he
    · rename_i a q hq
      split at he
      · rename_i t q2 hq2
        obtain ⟨g1, g2⟩ := xw_c he
        cases g2
        obtain ⟨x, V, rfl, hx, hV, hk⟩ := a_pi_ok i4 hq
        obtain ⟨b, V, rfl, hb, hV⟩ := a_pr_ok hV hq2
        obtain ⟨k1, k2, k3⟩ := a_pf_ok (r3 := 0) hs hx hk hV hb g1
        refine ⟨lv, V, xh_ui h b r3 x, lift _ ?_, k3⟩
        unfold xe_1 xp_vr
        try dsimp only
        rw [k1]
        show (cond (Nat.beq r2 r2) _ _) = _
        rw [Nat.beq_refl, k2]
        rfl
      · cases he
    · split at he
      · rename_i a q hq0 hq
        split at he
        · rename_i t q2 hq2
          obtain ⟨g1, g2⟩ := xw_c he
          cases g2
          rw [hq] at i4
          match st, i4, hs, lift with
          | v :: V, i4, hs, lift =>
            obtain ⟨b, V, rfl, hb, hV⟩ := a_pr_ok i4.2 hq2
            obtain ⟨k1, h', k2, k3⟩ := a_pg_ok hs i4.1 hV hb g1
            refine ⟨lv, V, h', lift _ ?_, k3⟩
            unfold xe_1 xp_vr
            try dsimp only
            rw [k1]
            show (cond (Nat.beq r2 r2) _ _) = _
            rw [Nat.beq_refl, k2]
            rfl
        · cases he
      · cases he
  case iaload =>
    unfold a_stp at he
    dsimp only at he
    split at he
    · rename_i i q hq
      split at he
      · rename_i t q2 hq2
        split at he
        · rename_i e hix
          obtain ⟨g1, g2⟩ := xw_c he
          cases g2
          have g1 := xw_beq g1
          obtain ⟨x, V, rfl, hx, hV, hk⟩ := a_pi_ok i4 hq
          obtain ⟨b, V, rfl, hb, hV⟩ := a_pr_ok hV hq2
          obtain ⟨m, k1, k2, k3, k4, k5⟩ := a_ix_ok i1 i5 hx hb hix
          unfold a_e at k3
          rw [g1] at k3
          refine ⟨lv, .int (xg 0 h.2.1 b x.toNatClampNeg) :: V, h, lift _ ?_, i1, i2, i3, ⟨a_vi rfl (a_I_ok k3.1 k3.2), hV⟩, i5, i6, i7⟩
          unfold xe_1 xp_ir
          try dsimp only
          rw [k1]
          show (cond (xe_in x m) _ _) = _
          rw [k2]
          rfl
        · cases he
      · cases he
    · cases he
  case baload =>
    unfold a_stp at he
    dsimp only at he
    split at he
    · rename_i i q hq
      split at he
      · rename_i t q2 hq2
        obtain ⟨x, V, rfl, hx, hV, hk⟩ := a_pi_ok i4 hq
        obtain ⟨b, V, rfl, hb, hV⟩ := a_pr_ok hV hq2
        split at he
        · rename_i e hix
          obtain ⟨g1, g2⟩ := xw_c he
          cases g2
          have g1 := xw_beq g1
          obtain ⟨m, k1, k2, k3, k4, k5⟩ := a_ix_ok i1 i5 hx hb hix
          unfold a_e at k3
          rw [g1] at k3
          refine ⟨lv, .int (xg 0 h.2.1 b x.toNatClampNeg) :: V, h, lift _ ?_, i1, i2, i3, ⟨a_vi rfl (a_I_ok k3.1 k3.2), hV⟩, i5, i6, i7⟩
          unfold xe_1 xp_ir
          try dsimp only
          rw [k1]
          show (cond (xe_in x m) _ _) = _
          rw [k2]
          rfl
        · split at he
          · rename_i e hix
            obtain ⟨g1, g2⟩ := xw_c he
            cases g2
            have g1 := xw_beq g1
            obtain ⟨m, k1, k2, k3, k4, k5⟩ := a_ix_ok i1 i5 hx hb hix
            unfold a_e at k3
            rw [g1] at k3
            refine ⟨lv, .int (xg 0 h.2.1 b x.toNatClampNeg) :: V, h, lift _ ?_, i1, i2, i3, ⟨a_vi rfl (a_I_ok k3.1 k3.2), hV⟩, i5, i6, i7⟩
            unfold xe_1 xp_ir
            try dsimp only
            rw [k1]
            show (cond (xe_in x m) _ _) = _
            rw [k2]
            rfl
          · cases he
      · cases he
    · cases he
  case iastore =>
    unfold a_stp at he
    dsimp only at he
    split at he
    · rename_i a q hq
      split at he
      · rename_i i q2 hq2
        split at he
        · rename_i t q3 hq3
          split at he
          · rename_i e hix
            obtain ⟨g1, g2⟩ := xw_c he
            cases g2
            obtain ⟨g1, g3⟩ := xw_bb g1
            obtain ⟨g3, g4⟩ := xw_bb g3
            obtain ⟨g4, g5⟩ := xw_bb g4
            have g1 := xw_beq g1
            have g3 := of_decide_eq_true g3
            have g4 := of_decide_eq_true g4
            obtain ⟨y, V, rfl, hy, hV, _⟩ := a_pi_ok i4 hq
            obtain ⟨x, V, rfl, hx, hV, _⟩ := a_pi_ok hV hq2
            obtain ⟨b, V, rfl, hb, hV⟩ := a_pr_ok hV hq3
            obtain ⟨m, k1, k2, k3, k4, k5⟩ := a_ix_ok i1 i5 hx hb hix
            have hby := a_bd_ok i5 hy
            obtain ⟨e1, lo, hi⟩ := e
            dsimp only at g1 g3 g4
            subst g1
            refine ⟨lv, V, xh_ui h b x.toNatClampNeg y, lift _ ?_, a_wr hb g5 hs k1 k5 k4 (by omega) (by omega) hV⟩
            unfold xe_1 xp_iir
            try dsimp only
            rw [k1]
            show (cond (xe_in x m) _ _) = _
            rw [k2]
            rfl
          · cases he
        · cases he
      · cases he
    · cases he
  case bastore =>
    unfold a_stp at he
    dsimp only at he
    split at he
    · rename_i a q hq
      split at he
      · rename_i i q2 hq2
        split at he
        · rename_i t q3 hq3
          obtain ⟨y, V, rfl, hy, hV, _⟩ := a_pi_ok i4 hq
          obtain ⟨x, V, rfl, hx, hV, _⟩ := a_pi_ok hV hq2
          obtain ⟨b, V, rfl, hb, hV⟩ := a_pr_ok hV hq3
          split at he
          · rename_i e hix
            obtain ⟨g1, g2⟩ := xw_c he
            cases g2
            obtain ⟨g1, g3⟩ := xw_bb g1
            obtain ⟨g3, g4⟩ := xw_bb g3
            obtain ⟨g4, g5⟩ := xw_bb g4
            have g1 := xw_beq g1
            have g3 := of_decide_eq_true g3
            have g4 := of_decide_eq_true g4
            obtain ⟨m, k1, k2, k3, k4, k5⟩ := a_ix_ok i1 i5 hx hb hix
            have hby := vp_nar01 y
            obtain ⟨e1, lo, hi⟩ := e
            dsimp only at g1 g3 g4
            subst g1
            refine ⟨lv, V, xh_ui h b x.toNatClampNeg (vp_nar .boolean y), lift _ ?_, a_wr hb g5 hs k1 k5 k4 (by omega) (by omega) hV⟩
            unfold xe_1 xp_iir
            try dsimp only
            rw [k1]
            show (cond (xe_in x m) _ _) = _
            rw [k2]
            rfl
          · split at he
            · rename_i e hix
              obtain ⟨g1, g2⟩ := xw_c he
              cases g2
              obtain ⟨g1, g3⟩ := xw_bb g1
              obtain ⟨g3, g4⟩ := xw_bb g3
              obtain ⟨g4, g5⟩ := xw_bb g4
              have g1 := xw_beq g1
              have g3 := of_decide_eq_true g3
              have g4 := of_decide_eq_true g4
              obtain ⟨m, k1, k2, k3, k4, k5⟩ := a_ix_ok i1 i5 hx hb hix
              have hby := vp_nar8 y
              obtain ⟨e1, lo, hi⟩ := e
              dsimp only at g1 g3 g4
              subst g1
              refine ⟨lv, V, xh_ui h b x.toNatClampNeg (vp_nar .byte y), lift _ ?_, a_wr hb g5 hs k1 k5 k4 (by omega) (by omega) hV⟩
              unfold xe_1 xp_iir
              try dsimp only
              rw [k1]
              show (cond (xe_in x m) _ _) = _
              rw [k2]
              rfl
            · cases he
        · cases he
      · cases he
    · cases he
  case arraylength =>
    unfold a_stp at he
    dsimp only at he
    split at he
    · rename_i t q hq
      split at he
      · rename_i k m hsh
        obtain ⟨g1, g2⟩ := xw_c he
        cases g2
        obtain ⟨b, V, rfl, hb, hV⟩ := a_pr_ok i4 hq
        have k1 := a_sh_at i1 hb hsh
        refine ⟨lv, .int (Int32.ofNat m) :: V, h, lift _ ?_, i1, i2, i3, ⟨a_vi rfl (a_I_ok (Int.le_refl _) (Int.le_refl _)), hV⟩, i5, i6, i7⟩
        unfold xe_1 xp_r
        try dsimp only
        rw [k1]
        show (cond (Nat.ble (k + 1) 5) _ _) = _
        rw [g1]
        rfl
      · cases he
    · cases he
  case lconst c => cases he; exact ⟨_, _, _, lift _ rfl, a_s_push hs ⟨_, rfl, Int.le_refl _, Int.le_refl _⟩⟩
  case ldc2_w c => cases he; exact ⟨_, _, _, lift _ rfl, a_s_push hs ⟨_, rfl, Int.le_refl _, Int.le_refl _⟩⟩
  case lload_n k => obtain ⟨a, b, c, g1, g2⟩ := a_ld_ok (pc := pc) (by decide) hs he; exact ⟨a, b, c, lift _ g1, g2⟩
  case lload k => obtain ⟨a, b, c, g1, g2⟩ := a_ld_ok (pc := pc) (by decide) hs he; exact ⟨a, b, c, lift _ g1, g2⟩
  case lstore_n k => obtain ⟨a, b, c, g1, g2⟩ := a_sw_ok (pc := pc) hs he; exact ⟨a, b, c, lift _ g1, g2⟩
  case lstore k => obtain ⟨a, b, c, g1, g2⟩ := a_sw_ok (pc := pc) hs he; exact ⟨a, b, c, lift _ g1, g2⟩
  case ladd => obtain ⟨y, x, V, rfl, rfl, _, g⟩ := a_ll_ok hs he; exact ⟨_, _, _, lift _ rfl, g _ (a_lt_ok _)⟩
  case lsub => obtain ⟨y, x, V, rfl, rfl, _, g⟩ := a_ll_ok hs he; exact ⟨_, _, _, lift _ rfl, g _ (a_lt_ok _)⟩
  case lmul => obtain ⟨y, x, V, rfl, rfl, _, g⟩ := a_ll_ok hs he; exact ⟨_, _, _, lift _ rfl, g _ (a_lt_ok _)⟩
  case land => obtain ⟨y, x, V, rfl, rfl, _, g⟩ := a_ll_ok hs he; exact ⟨_, _, _, lift _ rfl, g _ (a_lt_ok _)⟩
  case lor => obtain ⟨y, x, V, rfl, rfl, _, g⟩ := a_ll_ok hs he; exact ⟨_, _, _, lift _ rfl, g _ (a_lt_ok _)⟩
  case lcmp => obtain ⟨y, x, V, rfl, rfl, _, g⟩ := a_ll_ok hs he; exact ⟨_, _, _, lift _ rfl, g _ (a_vi rfl (a_I_ok (lg_cmp_b x y).1 (lg_cmp_b x y).2))⟩
  case ldiv =>
    unfold a_stp at he
    dsimp only at he
    split at he
    · rename_i b q hb
      obtain ⟨c1, he⟩ := xw_c he
      obtain ⟨y, x, V, rfl, rfl, hy, g⟩ := a_ll_ok hs he
      refine ⟨lv, .long (x / y) :: V, h, lift _ ?_, g _ (a_lt_ok _)⟩
      unfold xe_1 xp_ll
      dsimp only
      rw [l_ne0 c1 (hy b q hb)]
      rfl
    · cases he
  case lrem =>
    unfold a_stp at he
    dsimp only at he
    split at he
    · rename_i b q hb
      obtain ⟨c1, he⟩ := xw_c he
      obtain ⟨y, x, V, rfl, rfl, hy, g⟩ := a_ll_ok hs he
      refine ⟨lv, .long (x - x / y * y) :: V, h, lift _ ?_, g _ (a_lt_ok _)⟩
      unfold xe_1 xp_ll
      dsimp only
      rw [l_ne0 c1 (hy b q hb)]
      rfl
    · cases he
  case lushr =>
    unfold a_stp at he
    dsimp only at he
    split at he
    · rename_i b q hb
      split at he
      · rename_i a2 q2 ha
        cases he
        obtain ⟨y, V, rfl, hy, hq, _⟩ := a_pi_ok i4 hb
        obtain ⟨x, V, rfl, hx, hq⟩ := a_pl_ok hq ha
        exact ⟨_, _, _, lift _ rfl, i1, i2, i3, ⟨a_lt_ok _, hq⟩, i5, i6, i7⟩
      · cases he
    · cases he
  case lshl =>
    unfold a_stp at he
    dsimp only at he
    split at he
    · rename_i b q hb
      split at he
      · rename_i a2 q2 ha
        cases he
        obtain ⟨y, V, rfl, hy, hq, _⟩ := a_pi_ok i4 hb
        obtain ⟨x, V, rfl, hx, hq⟩ := a_pl_ok hq ha
        exact ⟨_, _, _, lift _ rfl, i1, i2, i3, ⟨a_lt_ok _, hq⟩, i5, i6, i7⟩
      · cases he
    · cases he
  case i2l =>
    unfold a_stp at he
    dsimp only at he
    split at he
    · rename_i b q hb
      cases he
      obtain ⟨x, V, rfl, hx, hq, _⟩ := a_pi_ok i4 hb
      have hbd := a_bd_ok i5 hx
      refine ⟨_, _, _, lift _ rfl, i1, i2, i3, ⟨⟨x.toInt64, rfl, ?_⟩, hq⟩, i5, i6, i7⟩
      rw [Int32.toInt_toInt64]
      exact hbd
    · cases he
  case l2i =>
    unfold a_stp at he
    dsimp only at he
    split at he
    · rename_i b q hb
      cases he
      obtain ⟨x, V, rfl, hx, hq⟩ := a_pl_ok i4 hb
      exact ⟨_, _, _, lift _ rfl, i1, i2, i3, ⟨a_vi rfl (a_top_ok _), hq⟩, i5, i6, i7⟩
    · cases he
  case i2b =>
    unfold a_stp at he
    dsimp only at he
    split at he
    · rename_i b q hb
      cases he
      obtain ⟨x, V, rfl, hx, hq, _⟩ := a_pi_ok i4 hb
      exact ⟨_, _, _, lift _ rfl, i1, i2, i3, ⟨a_vi rfl (a_I_ok (i2b_b x).1 (i2b_b x).2), hq⟩, i5, i6, i7⟩
    · cases he
  case iushr => obtain ⟨y, x, V, rfl, rfl, g⟩ := a_bin_ok (fun x y => (x.toUInt32 >>> (y.toUInt32 &&& Int32.toUInt32 31)).toInt32) (fun a b x y hx hy => ⟨a_top_ok _, rfl⟩) hs he; exact ⟨_, _, _, lift _ rfl, g⟩
  case laload =>
    unfold a_stp at he
    dsimp only at he
    split at he
    · rename_i i q hq
      split at he
      · rename_i t q2 hq2
        split at he
        · rename_i e hix
          obtain ⟨g1, g2⟩ := xw_c he
          cases g2
          have g1 := xw_beq g1
          obtain ⟨x, V, rfl, hx, hV, hk⟩ := a_pi_ok i4 hq
          obtain ⟨b, V, rfl, hb, hV⟩ := a_pr_ok hV hq2
          obtain ⟨m, k1, k2, k3, k4, k5⟩ := a_ix_ok i1 i5 hx hb hix
          unfold a_e at k3
          rw [g1] at k3
          refine ⟨lv, .long (xg 0 h.2.2.1 b x.toNatClampNeg) :: V, h, lift _ ?_, i1, i2, i3, ⟨⟨_, rfl, k3.1, k3.2⟩, hV⟩, i5, i6, i7⟩
          unfold xe_1 xp_ir
          try dsimp only
          rw [k1]
          show (cond (xe_in x m) _ _) = _
          rw [k2]
          rfl
        · cases he
      · rename_i hpr
        split at he
        · rename_i f q2
          obtain ⟨g1, g2⟩ := xw_c he
          cases g2
          obtain ⟨g1, g3⟩ := xw_bb g1
          obtain ⟨g3, g4⟩ := xw_bb g3
          obtain ⟨g4, g5⟩ := xw_bb g4
          have g1 := xw_beq g1
          have g3 := of_decide_eq_true g3
          have g4 := of_decide_eq_true g4
          have g5 := of_decide_eq_true g5
          obtain ⟨x, V, rfl, hx, hV, hk⟩ := a_pi_ok i4 hq
          have hb := a_bd_ok i5 hx
          match V, hV with
          | v :: V, hV =>
            have hv := hV.1
            unfold a_v at hv
            rw [g1] at hv
            have hv : v = .float (UInt32.ofNat f.2.1.toNat) := hv
            rw [g3] at hv
            subst hv
            refine ⟨lv, .long (xo_f x.toNatClampNeg) :: V, h, ?_, i1, i2, i3, ⟨a_lt_ok _, hV.2⟩, i5, i6, i7⟩
            have hin : xe_in x 13 = true := a_xin (by omega) (by show x.toInt < ((13 : Nat) : Int); omega)
            unfold xe_2 xe_1 xe_o xp_ir
            dsimp only
            rw [hin]
            rfl
        · cases he
    · cases he
  case getstatic c =>
    cases he
    exact ⟨_, _, _, rfl, a_s_push hs rfl⟩
  case lastore =>
    unfold a_stp at he
    dsimp only at he
    split at he
    · rename_i a q hq
      split at he
      · rename_i i q2 hq2
        split at he
        · rename_i t q3 hq3
          split at he
          · rename_i e hix
            obtain ⟨g1, g2⟩ := xw_c he
            cases g2
            obtain ⟨g1, g3⟩ := xw_bb g1
            obtain ⟨g3, g4⟩ := xw_bb g3
            have g1 := xw_beq g1
            have g3 := of_decide_eq_true g3
            have g4 := of_decide_eq_true g4
            obtain ⟨y, V, rfl, hy, hV⟩ := a_pl_ok i4 hq
            obtain ⟨x, V, rfl, hx, hV, _⟩ := a_pi_ok hV hq2
            obtain ⟨b, V, rfl, hb, hV⟩ := a_pr_ok hV hq3
            obtain ⟨m, k1, k2, k3, k4, k5⟩ := a_ix_ok i1 i5 hx hb hix
            obtain ⟨e1, lo, hi⟩ := e
            dsimp only at g1 g3 g4
            subst g1
            refine ⟨lv, V, xh_ul h b x.toNatClampNeg y, lift _ ?_, a_wl hs k1 k4 (by omega) (by omega) hV⟩
            unfold xe_1 xp_lir
            try dsimp only
            rw [k1]
            show (cond (xe_in x m) _ _) = _
            rw [k2]
            rfl
          · cases he
        · cases he
      · cases he
    · cases he
  case aaload =>
    unfold a_stp at he
    dsimp only at he
    split at he
    · rename_i i q hq
      split at he
      · rename_i t q2 hq2
        split at he
        · rename_i e hix
          obtain ⟨g1, g2⟩ := xw_c he
          cases g2
          have g1 := xw_beq g1
          obtain ⟨x, V, rfl, hx, hV, hk⟩ := a_pi_ok i4 hq
          obtain ⟨b, V, rfl, hb, hV⟩ := a_pr_ok hV hq2
          obtain ⟨m, k1, k2, k3, k4, k5⟩ := a_ix_ok i1 i5 hx hb hix
          unfold a_e at k3
          rw [g1] at k3
          refine ⟨lv, va_rf (xg none h.2.2.2 b x.toNatClampNeg) :: V, h, lift _ ?_, i1, i2, i3, ⟨?_, hV⟩, i5, i6, i7⟩
          · unfold xe_1 xp_ir
            try dsimp only
            rw [k1]
            show (cond (xe_in x m) _ _) = _
            rw [k2]
            rfl
          · cases e1 : xg none h.2.2.2 b x.toNatClampNeg with
            | none => exact Or.inl rfl
            | some q => exact Or.inr ⟨q, rfl, k3 q e1⟩
        · cases he
      · cases he
    · cases he
  all_goals (cases he)
end XAU
end
section
section XAK
/-- a block's head: its place, locals, stack, fields, a rank (a number plus multiples of names) -/
abbrev aH : Type := Nat × List (Nat × aV) × List aV × List (aN × aV) × Int × List (Int × aN)
def a_fo (a : aV) : aF := match a.2.2.2.1 with
  | some (n, c) => cond (Nat.beq a.1 0 && decide (c = 0)) [(n, a.2.1, a.2.2.1)] []
  | none => []
def a_hd (H : aH) : aS := (H.2.1, H.2.2.1, (H.2.1.flatMap fun q => a_fo q.2) ++ (H.2.2.2.1.flatMap fun q => a_fo q.2), H.2.2.2.1)
/-- the names' worth at a head -/
def a_sn (σ : aN → Int) (lv : List (Nat × Value)) (h : xh_H) : aN → Int := fun n => match n.1 with
  | 0 => cond (Nat.blt n.2 100) (match xl_get lv n.2 with
    | some (.int x) => x.toInt
    | _ => 0) (σ n)
  | c + 1 => (xg 0 h.2.1 c n.2).toInt
def a_per (n : aN) : Bool := Nat.beq n.1 0 && Nat.ble 100 n.2
theorem a_sn_per {σ : aN → Int} {lv : List (Nat × Value)} {h : xh_H} {n : aN} (hn : a_per n = true) : a_sn σ lv h n = σ n := by
  obtain ⟨h1, h2⟩ := xw_bb hn
  have h1 := xw_beq h1
  have h2 := xw_ble h2
  unfold a_sn
  rw [h1]
  dsimp only
  rw [show Nat.blt n.2 100 = false from by rw [Bool.eq_false_iff]; intro z; have := Nat.blt_eq.mp z; omega]
  rfl
def a_org (own : aN) (a b : Option (aN × Int)) : Bool := match b with
  | none => true
  | some (n, c) => decide (c = 0) && (a_nq n own || (a_per n && (match a with
    | some (m, e) => a_nq m n && decide (e = 0)
    | none => false)))
/-- a value fits another's bounds -/
def a_sub (E : aF) (own : aN) (a b : aV) : Bool := match b.1 with
  | 0 => Nat.beq a.1 0 && (decide (b.2.1 ≤ (a_bd E a).1) && (decide ((a_bd E a).2 ≤ b.2.2.1) && (a_org own a.2.2.2.1 b.2.2.2.1 && (b.2.2.2.2.1.isEmpty && b.2.2.2.2.2.isEmpty))))
  | 1 => Nat.beq a.1 1 && (decide (b.2.1 ≤ a.2.1) && decide (a.2.2.1 ≤ b.2.2.1))
  | 2 => Nat.beq a.1 2 && decide (a.2.1 = b.2.1)
  | 3 => (Nat.beq a.1 2 || Nat.beq a.1 3) && decide (a.2.1 = b.2.1)
  | 4 => Nat.beq a.1 4 && decide (a.2.1 = b.2.1)
  | _ => false
theorem a_sub_ok {σ σ' : aN → Int} {E : aF} {own : aN} {a b : aV} {n : Nat} {v : Value} (hE : a_f σ E) (he : a_sub E own a b = true) (h : a_v σ n a v) (ho : ∀ x, v = .int x → b.2.2.2.1 = some (own, 0) → σ' own = x.toInt) (hp : ∀ m, a_per m = true → σ' m = σ m) : a_v σ' n b v := by
  obtain ⟨bk, blo, bhi, borg, bt, bf⟩ := b
  unfold a_sub at he
  dsimp only at he ho
  match bk, he with
  | 0, he =>
    obtain ⟨u1, w1⟩ := xw_bb he
    obtain ⟨u2, w2⟩ := xw_bb w1
    obtain ⟨u3, w3⟩ := xw_bb w2
    obtain ⟨h4, w4⟩ := xw_bb w3
    obtain ⟨h5, h6⟩ := xw_bb w4
    clear w1 w2 w3 w4
    have h1 := xw_beq u1
    have h2 := of_decide_eq_true u2
    have h3 := of_decide_eq_true u3
    unfold a_v at h
    rw [h1] at h
    obtain ⟨x, rfl, hx⟩ := h
    have hbd := a_bd_ok hE hx
    have e5 : bt = [] := List.isEmpty_iff.mp h5
    have e6 : bf = [] := List.isEmpty_iff.mp h6
    subst e5
    subst e6
    refine ⟨x, rfl, ?_, ?_, ?_, fun _ q hq => (by cases hq), fun _ q hq => (by cases hq)⟩
    · dsimp only; omega
    · dsimp only; omega
    · intro m c e
      dsimp only at e
      subst e
      unfold a_org at h4
      dsimp only at h4
      obtain ⟨g1, g2⟩ := xw_bb h4
      have g1 := of_decide_eq_true g1
      subst g1
      rw [Bool.or_eq_true] at g2
      rcases g2 with g2 | g2
      · have e := a_nq_ok g2
        subst e
        rw [ho x rfl rfl]
        omega
      · obtain ⟨g2, g3⟩ := xw_bb g2
        split at g3
        · rename_i m2 e2 ea
          obtain ⟨g3, g4⟩ := xw_bb g3
          have g3 := a_nq_ok g3
          have g4 := of_decide_eq_true g4
          subst g3
          subst g4
          rw [hp _ g2]
          exact hx.2.2.1 _ _ ea
        · cases g3
  | 1, he =>
    obtain ⟨h1, h2⟩ := xw_bb he
    obtain ⟨h2, h3⟩ := xw_bb h2
    have h1 := xw_beq h1
    have h2 := of_decide_eq_true h2
    have h3 := of_decide_eq_true h3
    unfold a_v at h
    rw [h1] at h
    obtain ⟨x, rfl, g1, g2⟩ := h
    refine ⟨x, rfl, ?_, ?_⟩
    · dsimp only; omega
    · dsimp only; omega
  | 2, he =>
    obtain ⟨h1, h2⟩ := xw_bb he
    have h1 := xw_beq h1
    have h2 := of_decide_eq_true h2
    unfold a_v at h
    rw [h1] at h
    obtain ⟨q, rfl, g⟩ := h
    refine ⟨q, rfl, ?_⟩
    rw [← h2]
    exact g
  | 3, he =>
    obtain ⟨h1, h2⟩ := xw_bb he
    have h2 := of_decide_eq_true h2
    rw [Bool.or_eq_true] at h1
    unfold a_v at h
    rcases h1 with h1 | h1
    · have h1 := xw_beq h1
      rw [h1] at h
      obtain ⟨q, rfl, g⟩ := h
      refine Or.inr ⟨q, rfl, ?_⟩
      rw [← h2]
      exact g
    · have h1 := xw_beq h1
      rw [h1] at h
      rcases h with rfl | ⟨q, rfl, g⟩
      · exact Or.inl rfl
      · refine Or.inr ⟨q, rfl, ?_⟩
        rw [← h2]
        exact g
  | 4, he =>
    obtain ⟨h1, h2⟩ := xw_bb he
    have h1 := xw_beq h1
    have h2 := of_decide_eq_true h2
    unfold a_v at h
    rw [h1] at h
    show v = .float (UInt32.ofNat blo.toNat)
    rw [← h2]
    exact h
  | k + 5, he => cases he
def a_nn : aN := (0, 99)
/-- values one by one, without names -/
def a_ss (E : aF) : List aV → List aV → Bool
  | [], [] => true
  | a :: S, b :: U => a_sub E a_nn a b && ((match b.2.2.2.1 with
    | none => true
    | some (n, _) => !(a_nq n a_nn)) && a_ss E S U)
  | _, _ => false
theorem a_ss_ok {σ σ' : aN → Int} {E : aF} {n : Nat} (hE : a_f σ E) (hp : ∀ m, a_per m = true → σ' m = σ m) : ∀ {S U : List aV} {V : List Value}, a_ss E S U = true → a_st σ n S V → a_st σ' n U V := by
  intro S
  induction S with
  | nil =>
    intro U V he h
    cases U with
    | nil => cases V with
      | nil => trivial
      | cons v V => cases h
    | cons b U => cases he
  | cons a S ih =>
    intro U V he h
    cases U with
    | nil => cases he
    | cons b U =>
      cases V with
      | nil => cases h
      | cons v V =>
        obtain ⟨h1, h2⟩ := xw_bb he
        obtain ⟨h2, h3⟩ := xw_bb h2
        refine ⟨a_sub_ok hE h1 h.1 (fun x _ e => ?_) hp, ih h3 h.2⟩
        rw [e] at h2
        dsimp only at h2
        rw [show a_nq a_nn a_nn = true from rfl] at h2
        cases h2
def a_tf (tb : aT) (c k : Nat) : Option aV := match a_sh[c]? with
  | some (0, ci) => cond (Nat.blt k (xh_N ci) && Nat.beq (a_ent tb (0, ci) c k).1 0) (some (a_I (a_ent tb (0, ci) c k).2.1 (a_ent tb (0, ci) c k).2.2)) none
  | _ => none
/-- a field's value now -/
def a_cf (tb : aT) (A : aS) (q : aN) : Option aV := match a_kf A.2.2.2 q with
  | some a => some a
  | none => a_tf tb q.1 q.2
variable {tb : aT} {σ : aN → Int} {h0 : xh_H} {md : List (Nat × Nat)} {A : aS} {lv : List (Nat × Value)} {st : List Value} {h : xh_H}
theorem a_ob_at {c : Nat} (hc : a_ob c = true) (hi : a_inv tb h) (hn : 72 ≤ h.1.length) : a_r h.1.length c c := by
  obtain ⟨h1, -, -⟩ := a_ob_lt c hc
  exact ⟨by omega, a_tg_lt h1⟩
theorem a_cf_ok {q : aN} {a : aV} (hs : a_s tb σ h0 md A lv st h) (hn : 72 ≤ h.1.length) (ho : a_ob q.1 = true) (he : a_cf tb A q = some a) : a_v σ h.1.length a (.int (xg 0 h.2.1 q.1 q.2)) := by
  obtain ⟨i1, i2, i3, i4, i5, i6, i7⟩ := hs
  unfold a_cf at he
  split at he
  · rename_i a' ha
    cases he
    exact (i6 _ (a_kf_mem ha)).2
  · unfold a_tf at he
    split at he
    · rename_i ci hsh
      obtain ⟨g1, g2⟩ := xw_c he
      cases g2
      obtain ⟨g1, g2⟩ := xw_bb g1
      have g1 := Nat.blt_eq.mp g1
      have g2 := xw_beq g2
      have hat := a_ob_at ho i1 hn
      have k1 := a_sh_at i1 hat hsh
      have k2 := (i1.1 q.1 _ k1).2 q.2 g1
      rw [hat.2] at k2
      unfold a_e at k2
      rw [g2] at k2
      exact a_vi rfl (a_I_ok k2.1 k2.2)
    · cases he
/-- a frame comes to a head -/
def a_en (tb : aT) (A : aS) (H : aH) : Bool := (H.2.1.all fun q => Nat.blt q.1 100 && (match a_lk A.1 q.1 with
    | some a => a_sub A.2.2.1 (0, q.1) a q.2
    | none => false)) && (a_ss A.2.2.1 A.2.1 H.2.2.1 && (H.2.2.2.1.all fun q => a_ob q.1.1 && (match a_cf tb A q.1 with
    | some a => a_sub A.2.2.1 (q.1.1 + 1, q.1.2) a q.2
    | none => false)))
theorem a_fo_ok {σ' : aN → Int} {n : Nat} {a : aV} {v : Value} (h : a_v σ' n a v) : a_f σ' (a_fo a) := by
  unfold a_fo
  split
  · rename_i m c e
    cases hc : (Nat.beq a.1 0 && decide (c = 0)) with
    | false => intro q hq; cases hq
    | true =>
      obtain ⟨h1, h2⟩ := xw_bb hc
      have h1 := xw_beq h1
      have h2 := of_decide_eq_true h2
      subst h2
      unfold a_v at h
      rw [h1] at h
      obtain ⟨x, rfl, g1, g2, g3, -⟩ := h
      have g3 := g3 m 0 e
      intro q hq
      simp only [cond_true, List.mem_singleton] at hq
      subst hq
      dsimp only
      omega
  · intro q hq; cases hq
theorem a_en_ok {H : aH} (hs : a_s tb σ h0 md A lv st h) (hn : 72 ≤ h.1.length) (he : a_en tb A H = true) : a_s tb (a_sn σ lv h) h0 md (a_hd H) lv st h := by
  have hs0 := hs
  obtain ⟨i1, i2, i3, i4, i5, i6, i7⟩ := hs0
  unfold a_en at he
  obtain ⟨h1, h2⟩ := xw_bb he
  obtain ⟨h2, h3⟩ := xw_bb h2
  have hp : ∀ m, a_per m = true → a_sn σ lv h m = σ m := fun m hm => a_sn_per hm
  have hL : ∀ q ∈ H.2.1, ∃ v, xl_get lv q.1 = some v ∧ a_v (a_sn σ lv h) h.1.length q.2 v := by
    intro q hq
    have g := List.all_eq_true.mp h1 q hq
    obtain ⟨g1, g2⟩ := xw_bb g
    split at g2
    · rename_i a ha
      obtain ⟨v, k1, k2⟩ := i3 _ (a_lk_mem ha)
      refine ⟨v, k1, a_sub_ok i5 g2 k2 (fun x e _ => ?_) hp⟩
      unfold a_sn
      dsimp only
      rw [g1, k1, e]
      rfl
    · cases g2
  have hF : ∀ q ∈ H.2.2.2.1, a_ob q.1.1 = true ∧ a_v (a_sn σ lv h) h.1.length q.2 (.int (xg 0 h.2.1 q.1.1 q.1.2)) := by
    intro q hq
    have g := List.all_eq_true.mp h3 q hq
    obtain ⟨g1, g2⟩ := xw_bb g
    refine ⟨g1, ?_⟩
    split at g2
    · rename_i a ha
      have k2 := a_cf_ok hs hn g1 ha
      refine a_sub_ok i5 g2 k2 (fun x e _ => ?_) hp
      cases e
      rfl
    · cases g2
  refine ⟨i1, i2, hL, a_ss_ok i5 hp h2 i4, ?_, hF, i7⟩
  intro p hpm
  rcases List.mem_append.mp hpm with g | g
  · obtain ⟨q, k1, k2⟩ := List.mem_flatMap.mp g
    obtain ⟨v, -, k3⟩ := hL q k1
    exact a_fo_ok k3 p k2
  · obtain ⟨q, k1, k2⟩ := List.mem_flatMap.mp g
    exact a_fo_ok (hF q k1).2 p k2
end XAK
end
section
section XAL
def lf_v (σ : aN → Int) : List (Int × aN) → Int
  | [] => 0
  | q :: t => q.1 * σ q.2 + lf_v σ t
def lf_ad (w : Int) (n : aN) : List (Int × aN) → List (Int × aN)
  | [] => [(w, n)]
  | q :: t => cond (a_nq q.2 n) ((q.1 + w, q.2) :: t) (q :: lf_ad w n t)
theorem lf_ad_v {σ : aN → Int} (w : Int) (n : aN) : ∀ l : List (Int × aN), lf_v σ (lf_ad w n l) = lf_v σ l + w * σ n := by
  intro l
  induction l with
  | nil =>
    show w * σ n + 0 = 0 + w * σ n
    omega
  | cons q t ih =>
    unfold lf_ad
    cases hb : a_nq q.2 n with
    | true =>
      have e := a_nq_ok hb
      show (q.1 + w) * σ q.2 + lf_v σ t = q.1 * σ q.2 + lf_v σ t + w * σ n
      rw [e, Int.add_mul]
      omega
    | false =>
      show q.1 * σ q.2 + lf_v σ (lf_ad w n t) = q.1 * σ q.2 + lf_v σ t + w * σ n
      rw [ih]
      omega
def lf_ub (E : aF) : List (Int × aN) → Option Int
  | [] => some 0
  | q :: t => (match lf_ub E t with
    | none => none
    | some u => cond (decide (q.1 = 0)) (some u) (match a_fd E q.2 with
      | none => none
      | some (lo, hi) => some (u + cond (decide (0 ≤ q.1)) (q.1 * hi) (q.1 * lo))))
theorem lf_w {w lo hi z : Int} (h1 : lo ≤ z) (h2 : z ≤ hi) : w * z ≤ cond (decide (0 ≤ w)) (w * hi) (w * lo) := by
  cases hw : decide (0 ≤ w) with
  | true => exact Int.mul_le_mul_of_nonneg_left h2 (of_decide_eq_true hw)
  | false =>
    have := of_decide_eq_false hw
    exact Int.mul_le_mul_of_nonpos_left (by omega) h1
theorem lf_ub_ok {σ : aN → Int} {E : aF} (hE : a_f σ E) : ∀ {l : List (Int × aN)} {u : Int}, lf_ub E l = some u → lf_v σ l ≤ u := by
  intro l
  induction l with
  | nil => intro u h; cases h; exact Int.le_refl _
  | cons q t ih =>
    intro u h
    unfold lf_ub at h
    split at h
    · cases h
    · rename_i u1 hu
      have g := ih hu
      cases hz : decide (q.1 = 0) with
      | true =>
        rw [hz] at h
        have h : u1 = u := Option.some.inj h
        show q.1 * σ q.2 + lf_v σ t ≤ u
        rw [of_decide_eq_true hz]
        omega
      | false =>
        rw [hz] at h
        dsimp only [cond_false] at h
        split at h
        · cases h
        · rename_i lo hi hf
          cases h
          have b := a_fd_ok hE hf
          have w := lf_w (w := q.1) b.1 b.2
          dsimp only at w
          show q.1 * σ q.2 + lf_v σ t ≤ u1 + cond (decide (0 ≤ q.1)) (q.1 * hi) (q.1 * lo)
          omega
def a_rv (σ : aN → Int) (H : aH) : Int := H.2.2.2.2.1 + lf_v σ H.2.2.2.2.2
/-- a name's worth at the next head, in the words of this one -/
def a_nv (tb : aT) (A : aS) (n : aN) : Option (Option (aN × Int) × Int × Int) := match n.1 with
  | 0 => cond (Nat.blt n.2 100) (match a_lk A.1 n.2 with
    | some a => cond (Nat.beq a.1 0) (some (a.2.2.2.1, a_bd A.2.2.1 a)) none
    | none => none) (some (some (n, 0), 0, 0))
  | c + 1 => cond (a_ob c) (match a_cf tb A (c, n.2) with
    | some a => cond (Nat.beq a.1 0) (some (a.2.2.2.1, a_bd A.2.2.1 a)) none
    | none => none) none
variable {tb : aT} {σ : aN → Int} {h0 : xh_H} {md : List (Nat × Nat)} {A : aS} {lv : List (Nat × Value)} {st : List Value} {h : xh_H}
theorem a_nv_ok {n : aN} {o : Option (aN × Int)} {p : Int × Int} (hs : a_s tb σ h0 md A lv st h) (hn : 72 ≤ h.1.length) (he : a_nv tb A n = some (o, p)) : (∀ m e, o = some (m, e) → a_sn σ lv h n = σ m + e) ∧ (o = none → p.1 ≤ a_sn σ lv h n ∧ a_sn σ lv h n ≤ p.2) := by
  have hs0 := hs
  obtain ⟨i1, i2, i3, i4, i5, i6, i7⟩ := hs0
  obtain ⟨n1, n2⟩ := n
  unfold a_nv at he
  dsimp only at he
  match n1, he with
  | 0, he =>
    cases hb : Nat.blt n2 100 with
    | true =>
      rw [hb] at he
      dsimp only [cond_true] at he
      split at he
      · rename_i a ha
        obtain ⟨g1, g2⟩ := xw_c he
        cases g2
        have g1 := xw_beq g1
        obtain ⟨v, k1, k2⟩ := i3 _ (a_lk_mem ha)
        unfold a_v at k2
        rw [g1] at k2
        obtain ⟨x, rfl, k2⟩ := k2
        have e : a_sn σ lv h (0, n2) = x.toInt := by
          unfold a_sn
          dsimp only
          rw [hb, k1]
          rfl
        rw [e]
        exact ⟨k2.2.2.1, fun _ => a_bd_ok i5 k2⟩
      · cases he
    | false =>
      rw [hb] at he
      cases he
      have e : a_sn σ lv h (0, n2) = σ (0, n2) := by
        unfold a_sn
        dsimp only
        rw [hb]
        rfl
      rw [e]
      refine ⟨fun m e z => ?_, fun z => by cases z⟩
      cases z
      omega
  | c + 1, he =>
    obtain ⟨g1, g2⟩ := xw_c he
    split at g2
    · rename_i a ha
      obtain ⟨g3, g4⟩ := xw_c g2
      cases g4
      have g3 := xw_beq g3
      have k := a_cf_ok hs hn g1 ha
      unfold a_v at k
      rw [g3] at k
      obtain ⟨x, e, k⟩ := k
      cases e
      have e : a_sn σ lv h (c + 1, n2) = (xg 0 h.2.1 c n2).toInt := rfl
      rw [e]
      exact ⟨k.2.2.1, fun _ => a_bd_ok i5 k⟩
    · cases g2
def a_rk (tb : aT) (A : aS) : List (Int × aN) → Option (Int × List (Int × aN))
  | [] => some (0, [])
  | q :: t => (match a_rk tb A t with
    | none => none
    | some (c, l) => (match a_nv tb A q.2 with
      | none => none
      | some (some (m, e), _) => some (c + q.1 * e, lf_ad q.1 m l)
      | some (none, p) => some (c + cond (decide (0 ≤ q.1)) (q.1 * p.2) (q.1 * p.1), l)))
theorem a_rk_ok (hs : a_s tb σ h0 md A lv st h) (hn : 72 ≤ h.1.length) : ∀ {T : List (Int × aN)} {c : Int} {l : List (Int × aN)}, a_rk tb A T = some (c, l) → lf_v (a_sn σ lv h) T ≤ c + lf_v σ l := by
  intro T
  induction T with
  | nil => intro c l he; cases he; exact Int.le_refl _
  | cons q t ih =>
    intro c l he
    unfold a_rk at he
    split at he
    · cases he
    · rename_i c1 l1 h1
      have g := ih h1
      split at he
      · cases he
      · rename_i m e p hv
        cases he
        have k := (a_nv_ok hs hn hv).1 m e rfl
        rw [lf_ad_v]
        show q.1 * a_sn σ lv h q.2 + lf_v (a_sn σ lv h) t ≤ c1 + q.1 * e + (lf_v σ l1 + q.1 * σ m)
        rw [k, Int.mul_add]
        omega
      · rename_i p hv
        cases he
        have k := (a_nv_ok hs hn hv).2 rfl
        have w := lf_w (w := q.1) k.1 k.2
        show q.1 * a_sn σ lv h q.2 + lf_v (a_sn σ lv h) t ≤ c1 + cond (decide (0 ≤ q.1)) (q.1 * p.2) (q.1 * p.1) + lf_v σ l
        omega
def lf_sub (l : List (Int × aN)) : List (Int × aN) → List (Int × aN)
  | [] => l
  | q :: t => lf_sub (lf_ad (-q.1) q.2 l) t
theorem lf_sub_v {σ : aN → Int} : ∀ (t l : List (Int × aN)), lf_v σ (lf_sub l t) = lf_v σ l - lf_v σ t := by
  intro t
  induction t with
  | nil =>
    intro l
    show lf_v σ l = lf_v σ l - 0
    omega
  | cons q t ih =>
    intro l
    show lf_v σ (lf_sub (lf_ad (-q.1) q.2 l) t) = lf_v σ l - (q.1 * σ q.2 + lf_v σ t)
    rw [ih, lf_ad_v, Int.neg_mul]
    omega
/-- from one head to the next: the frame fits, the rank falls -/
def a_ed (tb : aT) (A : aS) (H G : aH) : Bool := a_en tb A G && (match a_rk tb A G.2.2.2.2.2 with
  | none => false
  | some (c, l) => (match lf_ub A.2.2.1 (lf_sub l H.2.2.2.2.2) with
    | none => false
    | some u => decide (G.2.2.2.2.1 + c + u < H.2.2.2.2.1)))
theorem a_ed_ok {H G : aH} (hs : a_s tb σ h0 md A lv st h) (hn : 72 ≤ h.1.length) (he : a_ed tb A H G = true) : a_s tb (a_sn σ lv h) h0 md (a_hd G) lv st h ∧ a_rv (a_sn σ lv h) G < a_rv σ H := by
  unfold a_ed at he
  obtain ⟨h1, h2⟩ := xw_bb he
  refine ⟨a_en_ok hs hn h1, ?_⟩
  split at h2
  · cases h2
  · rename_i c l hk
    split at h2
    · cases h2
    · rename_i u hu
      have h2 := of_decide_eq_true h2
      have k1 := a_rk_ok hs hn hk
      have k2 := lf_ub_ok hs.2.2.2.2.1 hu
      rw [lf_sub_v] at k2
      unfold a_rv
      omega
/-- a head's rank is no less than 0 -/
def a_h0 (H : aH) : Bool := match lf_ub (a_hd H).2.2.1 (lf_sub [] H.2.2.2.2.2) with
  | none => false
  | some u => decide (u ≤ H.2.2.2.2.1)
theorem a_h0_ok {H : aH} (hE : a_f σ (a_hd H).2.2.1) (he : a_h0 H = true) : 0 ≤ a_rv σ H := by
  unfold a_h0 at he
  split at he
  · cases he
  · rename_i u hu
    have he := of_decide_eq_true he
    have k := lf_ub_ok hE hu
    rw [lf_sub_v] at k
    unfold a_rv
    have e : lf_v σ ([] : List (Int × aN)) = 0 := rfl
    omega
end XAL
end
section
section XAM
/-- a contract: the method's number, how deep it calls, its arguments' bounds, its answer's, which fields it may write -/
abbrev aP : Type := List ((Nat × Nat) × Int × Int)
abbrev aC : Type := Nat × Nat × List aV × List (Option aV × aP) × List (Nat × Nat) × aP
/-- fields within bounds -/
def a_fp (P : aP) (h : xh_H) : Prop := ∀ q ∈ P, a_ob q.1.1 = true ∧ q.2.1 ≤ (xg 0 h.2.1 q.1.1 q.1.2).toInt ∧ (xg 0 h.2.1 q.1.1 q.1.2).toInt ≤ q.2.2
def a_fk (tb : aT) (A : aS) (P : aP) : Bool := P.all fun q => a_ob q.1.1 && (match a_cf tb A q.1 with
  | some a => Nat.beq a.1 0 && (decide (q.2.1 ≤ (a_bd A.2.2.1 a).1) && decide ((a_bd A.2.2.1 a).2 ≤ q.2.2))
  | none => false)
theorem a_fk_ok {tb : aT} {σ : aN → Int} {h0 : xh_H} {md : List (Nat × Nat)} {A : aS} {lv : List (Nat × Value)} {st : List Value} {h : xh_H} {P : aP} (hs : a_s tb σ h0 md A lv st h) (hn : 72 ≤ h.1.length) (he : a_fk tb A P = true) : a_fp P h := by
  intro q hq
  obtain ⟨g1, g2⟩ := xw_bb (List.all_eq_true.mp he q hq)
  refine ⟨g1, ?_⟩
  split at g2
  · rename_i a ha
    obtain ⟨g2, g3⟩ := xw_bb g2
    obtain ⟨g3, g4⟩ := xw_bb g3
    have g2 := xw_beq g2
    have g3 := of_decide_eq_true g3
    have g4 := of_decide_eq_true g4
    have k := a_cf_ok hs hn g1 ha
    unfold a_v at k
    rw [g2] at k
    obtain ⟨x, e, k⟩ := k
    cases e
    have b := a_bd_ok hs.2.2.2.2.1 k
    omega
  · cases g2
/-- fields' bounds as a frame's -/
def a_pf2 (P : aP) : List (aN × aV) := P.map fun q => (q.1, (0, q.2.1, q.2.2, none, [], []))
theorem a_pf2_ok {σ : aN → Int} {n : Nat} {P : aP} {h : xh_H} (hP : a_fp P h) : ∀ q ∈ a_pf2 P, a_ob q.1.1 = true ∧ a_v σ n q.2 (.int (xg 0 h.2.1 q.1.1 q.1.2)) := by
  intro q hq
  obtain ⟨p, hp, rfl⟩ := List.mem_map.mp hq
  obtain ⟨h1, h2, h3⟩ := hP p hp
  exact ⟨h1, a_vi rfl (a_I_ok h2 h3)⟩
/-- arguments by their slots -/
def a_sl : Nat → List aV → List (Nat × aV)
  | _, [] => []
  | i, a :: t => (i, a) :: a_sl (i + cond (Nat.beq a.1 1) 2 1) t
/-- the names' worth at a call: its arguments -/
def a_sg (vs : List Value) : aN → Int := fun n => match xl_get (lv_args 0 vs) (n.2 - 100) with
  | some (.int x) => x.toInt
  | _ => 0
/-- one of the ways in which a method may answer: its value, and bounds of fields then -/
def a_rok (σe : aN → Int) (n : Nat) (t : Option aV × aP) (v : Option Value) (h' : xh_H) : Prop := (match t.1 with
    | none => v = none
    | some a => ∃ w, v = some w ∧ a_v σe n a w) ∧ a_fp t.2 h'
def a_post (tb : aT) (h0 : xh_H) (md : List (Nat × Nat)) (σe : aN → Int) (ret : List (Option aV × aP)) (v : Option Value) (h' : xh_H) : Prop :=
  a_inv tb h' ∧ h'.1 = h0.1 ∧ (∃ t ∈ ret, a_rok σe h0.1.length t v h') ∧ ∀ c k, a_fz c = true → (c, a_key c k) ∉ md → xg 0 h'.2.1 c k = xg 0 h0.2.1 c k
/-- A METHOD KEEPS ITS CONTRACT -/
def a_spec (tb : aT) (C : aC) : Prop := ∀ (d : Nat) (mi : xm_M) (vs : List Value) (h : xh_H) (σ : aN → Int), C.2.1 ≤ d → xM C.1 = some mi → a_inv tb h → 72 ≤ h.1.length → a_st σ h.1.length C.2.2.1 vs → a_fp C.2.2.2.2.2 h → ∃ v h', xR none d C.1 mi (0, lv_args 0 vs, [], h, 0, 0) (v, h', 0, 0) ∧ a_post tb h C.2.2.2.2.1 (a_sg vs) C.2.2.2.1 v h'
def a_cat (S : List aV) : Nat := (S.map fun a => cond (Nat.beq a.1 1) 2 1).sum
theorem a_cat_ok {σ : aN → Int} {n : Nat} : ∀ {S : List aV} {V : List Value}, a_st σ n S V → xm_cat V = a_cat S := by
  intro S
  induction S with
  | nil => intro V h; cases V with
    | nil => rfl
    | cons v V => cases h
  | cons a S ih =>
    intro V h
    cases V with
    | nil => cases h
    | cons v V =>
      obtain ⟨h1, h2⟩ := h
      have e := ih h2
      show v.category + xm_cat V = cond (Nat.beq a.1 1) 2 1 + a_cat S
      rw [e]
      cases hb : Nat.beq a.1 1 with
      | false => rw [a_v_cat h1 hb]; rfl
      | true =>
        have hb := xw_beq hb
        unfold a_v at h1
        rw [hb] at h1
        obtain ⟨x, rfl, _⟩ := h1
        rfl
theorem a_st_len {σ : aN → Int} {n : Nat} : ∀ {S : List aV} {V : List Value}, a_st σ n S V → V.length = S.length := by
  intro S
  induction S with
  | nil => intro V h; cases V with
    | nil => rfl
    | cons v V => cases h
  | cons a S ih =>
    intro V h
    cases V with
    | nil => cases h
    | cons v V => exact congrArg (· + 1) (ih h.2)
theorem a_st_app {σ : aN → Int} {n : Nat} {U : List aV} {Y : List Value} : ∀ {S : List aV} {V : List Value}, a_st σ n S V → a_st σ n U Y → a_st σ n (S ++ U) (V ++ Y) := by
  intro S
  induction S with
  | nil => intro V h g; cases V with
    | nil => exact g
    | cons v V => cases h
  | cons a S ih =>
    intro V h g
    cases V with
    | nil => cases h
    | cons v V => exact ⟨h.1, ih h.2 g⟩
theorem a_st_rev {σ : aN → Int} {n : Nat} : ∀ {S : List aV} {V : List Value}, a_st σ n S V → a_st σ n S.reverse V.reverse := by
  intro S
  induction S with
  | nil => intro V h; cases V with
    | nil => trivial
    | cons v V => cases h
  | cons a S ih =>
    intro V h
    cases V with
    | nil => cases h
    | cons v V =>
      rw [List.reverse_cons, List.reverse_cons]
      exact a_st_app (ih h.2) ⟨h.1, trivial⟩
theorem a_st_td {σ : aN → Int} {n : Nat} : ∀ (k : Nat) {S : List aV} {V : List Value}, a_st σ n S V → a_st σ n (S.take k) (V.take k) ∧ a_st σ n (S.drop k) (V.drop k) := by
  intro k
  induction k with
  | zero => intro S V h; exact ⟨trivial, h⟩
  | succ k ih =>
    intro S V h
    cases S with
    | nil => cases V with
      | nil => exact ⟨trivial, trivial⟩
      | cons v V => cases h
    | cons a S =>
      cases V with
      | nil => cases h
      | cons v V => exact ⟨⟨h.1, (ih h.2).1⟩, (ih h.2).2⟩
/-- slots and arguments -/
theorem a_sl_ok {σ : aN → Int} {n : Nat} : ∀ {S : List aV} {V : List Value} {i : Nat}, a_st σ n S V → ∀ q ∈ a_sl i S, ∃ v, xl_get (lv_args i V) q.1 = some v ∧ a_v σ n q.2 v := by
  intro S
  induction S with
  | nil => intro V i h q hq; cases hq
  | cons a S ih =>
    intro V i h q hq
    cases V with
    | nil => cases h
    | cons v V =>
      have hc : v.category = cond (Nat.beq a.1 1) 2 1 := by
        cases hb : Nat.beq a.1 1 with
        | false => exact a_v_cat h.1 hb
        | true =>
          have hb := xw_beq hb
          have h1 := h.1
          unfold a_v at h1
          rw [hb] at h1
          obtain ⟨x, rfl, _⟩ := h1
          rfl
      rcases List.mem_cons.mp hq with rfl | hq
      · refine ⟨v, ?_, h.1⟩
        unfold lv_args xl_get
        rw [Nat.beq_refl]
        rfl
      · obtain ⟨w, g1, g2⟩ := ih (i := i + cond (Nat.beq a.1 1) 2 1) h.2 q hq
        have hge : ∀ {S : List aV} {j : Nat}, ∀ q ∈ a_sl j S, j ≤ q.1 := by
          intro S
          induction S with
          | nil => intro j q hq; cases hq
          | cons b S ihs =>
            intro j q hq
            rcases List.mem_cons.mp hq with rfl | hq
            · exact Nat.le_refl _
            · exact Nat.le_trans (Nat.le_add_right _ _) (ihs q hq)
        have hlt := hge q hq
        refine ⟨w, ?_, g2⟩
        unfold lv_args xl_get
        have hb : Nat.beq i q.1 = false := by
          rw [Bool.eq_false_iff]
          intro z
          have := Nat.eq_of_beq_eq_true z
          cases hbb : Nat.beq a.1 1 <;> rw [hbb] at hlt <;> simp only [cond_true, cond_false] at hlt <;> omega
        rw [hb, hc]
        have e : (if (cond (Nat.beq a.1 1) 2 1) = 2 then i + 2 else i + 1) = i + cond (Nat.beq a.1 1) 2 1 := by cases Nat.beq a.1 1 <;> rfl
        show xl_get (lv_args (if (cond (Nat.beq a.1 1) 2 1) = 2 then i + 2 else i + 1) V) q.1 = some w
        rw [e]
        exact g1
/-- facts of the arguments, in the caller's words -/
def a_trf (L : List (Nat × aV)) (F : aF) : aF := F.flatMap fun q => cond (a_per q.1) (match a_lk L (q.1.2 - 100) with
  | some a => cond (Nat.beq a.1 0) ((match a.2.2.2.1 with
    | some (m, c) => [(m, q.2.1 - c, q.2.2 - c)]
    | none => []) ++ cond (decide ((0 : Int) < q.2.1) || decide (q.2.2 < (0 : Int))) a.2.2.2.2.1 (cond (decide ((0 : Int) = q.2.1) && decide (q.2.2 = (0 : Int))) a.2.2.2.2.2 [])) []
  | none => []) []
theorem a_trf_ok {σ : aN → Int} {n : Nat} {S : List aV} {V : List Value} {F : aF} (h : a_st σ n S V) (hF : a_f (a_sg V) F) : a_f σ (a_trf (a_sl 0 S) F) := by
  intro p hp
  obtain ⟨q, hq, hp⟩ := List.mem_flatMap.mp hp
  cases hb : a_per q.1 with
  | false => rw [hb] at hp; cases hp
  | true =>
    rw [hb] at hp
    dsimp only [cond_true] at hp
    split at hp
    · rename_i a ha
      cases hk : Nat.beq a.1 0 with
      | false => rw [hk] at hp; cases hp
      | true =>
        rw [hk] at hp
        dsimp only [cond_true] at hp
        obtain ⟨v, g1, g2⟩ := a_sl_ok (i := 0) h _ (a_lk_mem ha)
        unfold a_v at g2
        rw [xw_beq hk] at g2
        obtain ⟨x, rfl, g2⟩ := g2
        have e1 : a_sg V q.1 = x.toInt := by
          unfold a_sg
          rw [g1]
        have e3 := hF q hq
        rw [e1] at e3
        have e0 : (0 : Int32).toInt = 0 := rfl
        rcases List.mem_append.mp hp with hp | hp
        · split at hp
          · rename_i m c hc
            rw [List.mem_singleton] at hp
            subst hp
            have e2 := g2.2.2.1 m c hc
            dsimp only
            omega
          · cases hp
        · cases hz : (decide ((0 : Int) < q.2.1) || decide (q.2.2 < (0 : Int))) with
          | true =>
            rw [hz] at hp
            rw [Bool.or_eq_true, decide_eq_true_eq, decide_eq_true_eq] at hz
            refine g2.2.2.2.1 (fun e => ?_) p hp
            rw [e] at e3
            omega
          | false =>
            rw [hz] at hp
            dsimp only [cond_false] at hp
            cases hy : (decide ((0 : Int) = q.2.1) && decide (q.2.2 = (0 : Int))) with
            | true =>
              rw [hy] at hp
              rw [Bool.and_eq_true, decide_eq_true_eq, decide_eq_true_eq] at hy
              exact g2.2.2.2.2 (Int32.toInt_inj.mp (by omega)) p hp
            | false => rw [hy] at hp; cases hp
    · cases hp
/-- an answer, in the caller's words -/
def a_rt (L : List (Nat × aV)) (a : aV) : aV := (a.1, a.2.1, a.2.2.1, none, a_trf L a.2.2.2.2.1, a_trf L a.2.2.2.2.2)
theorem a_rt_ok {σ : aN → Int} {n : Nat} {S : List aV} {V : List Value} {a : aV} {v : Value} (h : a_st σ n S V) (hv : a_v (a_sg V) n a v) : a_v σ n (a_rt (a_sl 0 S) a) v := by
  obtain ⟨k, lo, hi, o, ft, ff⟩ := a
  unfold a_v at hv ⊢
  unfold a_rt
  dsimp only at hv ⊢
  split at hv
  · obtain ⟨x, rfl, g1, g2, g3, g4, g5⟩ := hv
    exact ⟨x, rfl, g1, g2, fun m c e => (by cases e), fun z => a_trf_ok h (g4 z), fun z => a_trf_ok h (g5 z)⟩
  · exact hv
  · exact hv
  · exact hv
  · exact hv
end XAM
end
section
section XAN
/-- a call fits a contract: what comes behind it -/
def a_cl (tb : aT) (md : List (Nat × Nat)) (mj : xm_M) (k d : Nat) (A : aS) (C : aC) : Option (List aS) :=
  cond (a_ss A.2.2.1 (A.2.1.take C.2.2.1.length).reverse C.2.2.1 && (Nat.ble C.2.2.1.length A.2.1.length && (Nat.ble (a_cat (A.2.1.drop C.2.2.1.length)) 8 && (Nat.ble (a_cat (A.2.1.take C.2.2.1.length).reverse) mj.2.2.2.1 && (Nat.beq mj.2.2.2.2.2.1 k && (Nat.beq C.2.2.1.length (mj.2.2.2.2.2.2.1 + cond (Nat.beq k 0) 1 0) && (Nat.ble C.2.1 d && (C.2.2.2.2.1.all (fun q => a_mem md q) && (a_fk tb A C.2.2.2.2.2 && (match k with
    | 0 => (match C.2.2.1 with
      | a :: _ => Nat.beq a.1 2 && decide (a_sh[a.2.1.toNat]? = some (0, mj.2.2.2.2.2.2.2))
      | [] => false)
    | _ => true))))))))))
    (some (C.2.2.2.1.map fun t => (A.1, (match t.1 with
      | some a => a_rt (a_sl 0 (A.2.1.take C.2.2.1.length).reverse) a :: A.2.1.drop C.2.2.1.length
      | none => A.2.1.drop C.2.2.1.length), A.2.2.1, a_pf2 t.2 ++ A.2.2.2.filter (fun q => !(a_mem C.2.2.2.2.1 q.1))))) none
variable {tb : aT} {σ : aN → Int} {h0 : xh_H} {md : List (Nat × Nat)} {A : aS} {L : List aS} {lv : List (Nat × Value)} {st : List Value} {h : xh_H}
theorem a_mem_no {q : Nat × Nat} : ∀ {md : List (Nat × Nat)}, a_mem md q = false → q ∉ md := by
  intro md
  induction md with
  | nil => intro _ h; cases h
  | cons p t ih =>
    intro h hm
    unfold a_mem at h
    cases hb : a_nq p q with
    | true => rw [hb] at h; cases h
    | false =>
      rw [hb] at h
      rcases List.mem_cons.mp hm with rfl | hm
      · exact a_nq_no hb rfl
      · exact ih h hm
theorem a_take_drop {V : List Value} (k : Nat) : V = (V.take k).reverse.reverse ++ V.drop k := by
  rw [List.reverse_reverse, List.take_append_drop]
set_option maxHeartbeats 4000000 in
theorem a_cl_ok {C : aC} {mj : xm_M} {r : xr_R} {k d : Nat} (hk : (k = 0 ∧ ∃ i, r.1 = .invokevirtual i) ∨ (k = 1 ∧ (∃ i, r.1 = .invokestatic i) ∧ Nat.beq r.2.2.2.1 0 = true)) (hr : r.2.2.1 = C.1) (hmj : xM C.1 = some mj) (hC : a_spec tb C) (hs : a_s tb σ h0 md A lv st h) (hn : 72 ≤ h.1.length) (he : a_cl tb md mj k d A C = some L) : ∃ As q v h', xe_cl xM r st h = some (mj, As, q) ∧ xR none d r.2.2.1 mj (0, lv_args 0 As, [], h, 0, 0) (v, h', 0, 0) ∧ h'.1 = h.1 ∧ ∃ A' ∈ L, a_s tb σ h0 md A' lv (v.toList ++ q) h' := by
  have hs0 := hs
  obtain ⟨i1, i2, i3, i4, i5, i6, i7⟩ := hs0
  unfold a_cl at he
  obtain ⟨c0, ce⟩ := xw_c he
  obtain ⟨c1, u1⟩ := xw_bb c0
  obtain ⟨c2, u2⟩ := xw_bb u1
  obtain ⟨c3, u3⟩ := xw_bb u2
  obtain ⟨c4, u4⟩ := xw_bb u3
  obtain ⟨c5, u5⟩ := xw_bb u4
  obtain ⟨c6, u6⟩ := xw_bb u5
  obtain ⟨c7, u7⟩ := xw_bb u6
  obtain ⟨c8, u8⟩ := xw_bb u7
  obtain ⟨cp, c9⟩ := xw_bb u8
  have c2' := xw_ble c2
  have c7' := xw_ble c7
  obtain ⟨t1, t2⟩ := a_st_td C.2.2.1.length i4
  have tr := a_st_rev t1
  have targ : a_st σ h.1.length C.2.2.1 (st.take C.2.2.1.length).reverse := a_ss_ok i5 (fun _ _ => rfl) c1 tr
  obtain ⟨v, h', r1, p1, p2, ⟨t, ht, p3, p5⟩, p4⟩ := hC d mj (st.take C.2.2.1.length).reverse h σ c7' hmj i1 hn targ (a_fk_ok hs hn cp)
  have hlen : st.length = A.2.1.length := a_st_len i4
  have hcat1 : xm_cat (st.drop C.2.2.1.length) = a_cat (A.2.1.drop C.2.2.1.length) := a_cat_ok t2
  have hcat2 : xm_cat (st.take C.2.2.1.length).reverse = a_cat (A.2.1.take C.2.2.1.length).reverse := a_cat_ok tr
  have hcl : xe_cl xM r st h = some (mj, (st.take C.2.2.1.length).reverse, st.drop C.2.2.1.length) := by
    have c5' := xw_beq c5
    have c6' := xw_beq c6
    unfold xe_cl
    rw [hr, hmj]
    dsimp only
    rcases hk with ⟨rfl, i, hi⟩ | ⟨rfl, ⟨i, hi⟩, hb⟩
    · rw [hi]
      dsimp only at c6' ⊢
      have c9 : (match C.2.2.1 with
        | a :: _ => Nat.beq a.1 2 && decide (a_sh[a.2.1.toNat]? = some (0, mj.2.2.2.2.2.2.2))
        | [] => false) = true := c9
      split at c9
      · rename_i a rest hargs
        obtain ⟨c10, c11⟩ := xw_bb c9
        have c10 := xw_beq c10
        have c11 := of_decide_eq_true c11
        have e6 : C.2.2.1.length = mj.2.2.2.2.2.2.1 + 1 := c6'
        -- the receiver lies under the arguments
        have hrev : (st.take C.2.2.1.length).reverse = st[mj.2.2.2.2.2.2.1]'(by omega) :: (st.take mj.2.2.2.2.2.2.1).reverse := by
          rw [e6, List.take_succ_eq_append_getElem (by omega), List.reverse_append]
          rfl
        have hdrop : st.drop mj.2.2.2.2.2.2.1 = st[mj.2.2.2.2.2.2.1]'(by omega) :: st.drop C.2.2.1.length := by
          rw [e6]
          exact List.drop_eq_getElem_cons (by omega)
        rw [hrev, hargs] at targ
        obtain ⟨g1, -⟩ := targ
        unfold a_v at g1
        rw [c10] at g1
        obtain ⟨b, eb, g1⟩ := g1
        rw [hrev, hdrop, eb]
        dsimp only
        rw [a_sh_at i1 g1 c11]
        show (cond (Nat.beq mj.2.2.2.2.2.2.2 mj.2.2.2.2.2.2.2 && (Nat.beq mj.2.2.2.2.2.1 0 && (Nat.beq (st.take mj.2.2.2.2.2.2.1).length mj.2.2.2.2.2.2.1 && (Nat.ble (xm_cat (st.drop C.2.2.1.length)) 8 && Nat.ble (xm_cat (.ref b :: (st.take mj.2.2.2.2.2.2.1).reverse)) mj.2.2.2.1)))) (some (mj, .ref b :: (st.take mj.2.2.2.2.2.2.1).reverse, st.drop C.2.2.1.length)) none) = _
        rw [hrev, eb] at hcat2
        have q1 : Nat.beq (st.take mj.2.2.2.2.2.2.1).length mj.2.2.2.2.2.2.1 = true := by
          rw [List.length_take, show min mj.2.2.2.2.2.2.1 st.length = mj.2.2.2.2.2.2.1 from by omega]
          exact Nat.beq_refl _
        rw [Nat.beq_refl, c5, q1, hcat1, c3, hcat2, c4]
        rfl
      · cases c9
    · rw [hi]
      dsimp only at c6' ⊢
      have e6 : C.2.2.1.length = mj.2.2.2.2.2.2.1 := c6'
      have q1 : Nat.beq (st.take mj.2.2.2.2.2.2.1).length mj.2.2.2.2.2.2.1 = true := by
        rw [List.length_take, show min mj.2.2.2.2.2.2.1 st.length = mj.2.2.2.2.2.2.1 from by omega]
        exact Nat.beq_refl _
      rw [e6] at hcat1 hcat2 c3 c4 ⊢
      rw [hb, c5, q1, hcat1, c3, hcat2, c4]
      rfl
  refine ⟨_, _, v, h', hcl, by rw [hr]; exact r1, p2, ?_⟩
  have ce := Option.some.inj ce
  subst ce
  have hl : h'.1.length = h.1.length := by rw [p2]
  refine ⟨_, List.mem_map.mpr ⟨t, ht, rfl⟩, p1, p2.trans i2, ?_, ?_, i5, ?_, ?_⟩
  · rw [hl]
    exact i3
  · rw [hl]
    dsimp only
    split at p3
    · rename_i e
      simp only [e]
      rw [p3]
      exact t2
    · rename_i a e
      obtain ⟨w, rfl, g⟩ := p3
      simp only [e]
      exact ⟨a_rt_ok tr g, t2⟩
  · intro q hq
    rcases List.mem_append.mp hq with hq | hq
    · exact a_pf2_ok p5 q hq
    obtain ⟨hq, hm⟩ := List.mem_filter.mp hq
    obtain ⟨o1, o2⟩ := i6 q hq
    rw [Bool.not_eq_true'] at hm
    refine ⟨o1, ?_⟩
    rw [hl, p4 q.1.1 q.1.2 (a_ob_fz o1) (by rw [a_key_ob o1]; exact a_mem_no hm)]
    exact o2
  · intro c' k' hc hm
    rw [p4 c' k' hc (fun z => hm (a_mem_ok (List.all_eq_true.mp c8 _ z)))]
    exact i7 c' k' hc hm
end XAN
end
section
section XAP
def a_imp (E F : aF) : Bool := F.all fun q => a_per q.1 && (match a_fd E q.1 with
  | some (l, h) => decide (q.2.1 ≤ l) && decide (h ≤ q.2.2)
  | none => false)
theorem a_imp_ok {σ σe : aN → Int} {E F : aF} (hE : a_f σ E) (hσ : ∀ m, a_per m = true → σ m = σe m) (he : a_imp E F = true) : a_f σe F := by
  intro q hq
  have g := List.all_eq_true.mp he q hq
  obtain ⟨g1, g2⟩ := xw_bb g
  split at g2
  · rename_i l hh e
    obtain ⟨g2, g3⟩ := xw_bb g2
    have g2 := of_decide_eq_true g2
    have g3 := of_decide_eq_true g3
    have k := a_fd_ok hE e
    rw [hσ _ g1] at k
    dsimp only at k
    omega
  · cases g2
def a_rti (E : aF) (rty : Option FieldType) (a b : aV) : Bool := Nat.beq a.1 0 && (Nat.beq b.1 0 && (decide (b.2.1 ≤ (a_bd E a).1) && (decide ((a_bd E a).2 ≤ b.2.2.1) && (b.2.2.2.1.isNone && (((decide ((a_bd E a).1 = 0) && decide ((a_bd E a).2 = 0)) || a_imp (a_ads E a.2.2.2.2.1) b.2.2.2.2.1) && (((decide (0 < (a_bd E a).1) || decide ((a_bd E a).2 < 0)) || a_imp (a_ads E a.2.2.2.2.2) b.2.2.2.2.2) && (match rty with
  | some .int => true
  | some .boolean => decide (0 ≤ (a_bd E a).1) && decide ((a_bd E a).2 ≤ 1)
  | _ => false)))))))
theorem a_rti_ok {σ σe : aN → Int} {n : Nat} {E : aF} {rty : Option FieldType} {a b : aV} {v : Value} (hE : a_f σ E) (hσ : ∀ m, a_per m = true → σ m = σe m) (hv : a_v σ n a v) (he : a_rti E rty a b = true) : xe_rv .ireturn rty [v] = some (some v) ∧ a_v σe n b v := by
  unfold a_rti at he
  obtain ⟨c1, u1⟩ := xw_bb he
  obtain ⟨c2, u2⟩ := xw_bb u1
  obtain ⟨c3, u3⟩ := xw_bb u2
  obtain ⟨c4, u4⟩ := xw_bb u3
  obtain ⟨c5, u5⟩ := xw_bb u4
  obtain ⟨c6, u6⟩ := xw_bb u5
  obtain ⟨c7, c8⟩ := xw_bb u6
  have c1 := xw_beq c1
  have c2 := xw_beq c2
  have c3 := of_decide_eq_true c3
  have c4 := of_decide_eq_true c4
  unfold a_v at hv
  rw [c1] at hv
  obtain ⟨x, rfl, hx⟩ := hv
  have hb := a_bd_ok hE hx
  have e0 : (0 : Int32).toInt = 0 := rfl
  refine ⟨?_, ?_⟩
  · unfold xe_rv
    dsimp only
    split at c8
    · rfl
    · obtain ⟨g1, g2⟩ := xw_bb c8
      have g1 := of_decide_eq_true g1
      have g2 := of_decide_eq_true g2
      dsimp only
      rw [a_i01 (by omega) (by omega)]
      rfl
    · cases c8
  · refine a_vi c2 ⟨by omega, by omega, ?_, ?_, ?_⟩
    · intro m c e
      rw [e] at c5
      cases c5
    · intro z
      rw [Bool.or_eq_true] at c6
      rcases c6 with g | g
      · obtain ⟨g1, g2⟩ := xw_bb g
        have g1 := of_decide_eq_true g1
        have g2 := of_decide_eq_true g2
        exact absurd (Int32.toInt_inj.mp (show x.toInt = (0 : Int32).toInt by omega)) z
      · exact a_imp_ok (a_ads_ok hE (hx.2.2.2.1 z)) hσ g
    · intro z
      rw [Bool.or_eq_true] at c7
      rcases c7 with g | g
      · rw [Bool.or_eq_true, decide_eq_true_eq, decide_eq_true_eq] at g
        rw [z] at hb
        omega
      · exact a_imp_ok (a_ads_ok hE (hx.2.2.2.2 z)) hσ g
/-- a local is asked whether it is null -/
def a_nul (mid pc : Nat) (A : aS) (k : Nat) : Option (aV × Nat) := match xC mid (pc + 2) with
  | some r2 => (match r2.1 with
    | .ifnull _ => (match a_lk A.1 k with
      | some a => cond (Nat.beq a.1 3) (some (a, r2.2.2.1)) none
      | none => none)
    | _ => none)
  | none => none
/-- THE CHECKER: from a place on, up to returns and heads -/
def a_ck (tb : aT) (md : List (Nat × Nat)) (Sp : List aC) (hd : List aH) (H : aH) (mid nL dep : Nat) (rty : Option FieldType) (ret : List (Option aV × aP)) : Nat → Bool → Nat → aS → Bool
  | 0, _, _, _ => false
  | f + 1, b, pc, A => cond (b && hd.any (fun G => Nat.beq G.1 pc)) (hd.any fun G => Nat.beq G.1 pc && a_ed tb A H G) (match xC mid pc with
    | none => false
    | some r => (match r.1 with
      | .goto _ => a_ck tb md Sp hd H mid nL dep rty ret f true r.2.2.1 A
      | .ifCond k _ => (match a_pi A.2.1 with
        | some (x, q) => (match a_cmp k A.2.2.1 x (a_I 0 0) with
            | none => true
            | some E => a_ck tb md Sp hd H mid nL dep rty ret f true r.2.2.1 (A.1, q, E, A.2.2.2)) && (match a_cmp (a_neg k) A.2.2.1 x (a_I 0 0) with
            | none => true
            | some E => a_ck tb md Sp hd H mid nL dep rty ret f true (pc + 3) (A.1, q, E, A.2.2.2))
        | none => false)
      | .if_icmp k _ => (match a_pi A.2.1 with
        | some (y, q) => (match a_pi q with
          | some (x, q) => (match a_cmp k A.2.2.1 x y with
              | none => true
              | some E => a_ck tb md Sp hd H mid nL dep rty ret f true r.2.2.1 (A.1, q, E, A.2.2.2)) && (match a_cmp (a_neg k) A.2.2.1 x y with
              | none => true
              | some E => a_ck tb md Sp hd H mid nL dep rty ret f true (pc + 3) (A.1, q, E, A.2.2.2))
          | none => false)
        | none => false)
      | .ireturn => (match A.2.1 with
        | [a] => ret.any fun t => (match t.1 with
          | some b => a_rti A.2.2.1 rty a b
          | none => false) && a_fk tb A t.2
        | _ => false)
      | .return_ => (match A.2.1 with
        | [] => ret.any fun t => (match t.1 with
          | none => (match rty with
            | none => true
            | some _ => false)
          | some _ => false) && a_fk tb A t.2
        | _ => false)
      | .lreturn => (match A.2.1 with
        | [a] => ret.any fun t => (match t.1 with
          | some b => Nat.beq a.1 1 && (Nat.beq b.1 1 && (decide (b.2.1 ≤ a.2.1) && (decide (a.2.2.1 ≤ b.2.2.1) && (match rty with
            | some .long => true
            | _ => false))))
          | none => false) && a_fk tb A t.2
        | _ => false)
      | .areturn => (match A.2.1 with
        | [a] => ret.any fun t => (match t.1 with
          | some b => Nat.beq a.1 2 && (Nat.beq b.1 2 && (decide (b.2.1 = a.2.1) && (match rty with
            | some (.object _) => true
            | _ => false)))
          | none => false) && a_fk tb A t.2
        | _ => false)
      | .aload k => (match a_nul mid pc A k with
        | some (a, tgt) => a_ck tb md Sp hd H mid nL dep rty ret f true (pc + 5) ((k, (2, a.2.1, 0, none, [], [])) :: A.1, A.2) && a_ck tb md Sp hd H mid nL dep rty ret f true tgt A
        | none => (match a_stp tb md nL r A with
          | some (n, A') => a_ck tb md Sp hd H mid nL dep rty ret f true (pc + n) A'
          | none => false))
      | .if_acmp .ne _ => (match a_pr A.2.1 with
        | some (_, q) => (match a_pr q with
          | some (_, q) => a_ck tb md Sp hd H mid nL dep rty ret f true r.2.2.1 (A.1, q, A.2.2) && a_ck tb md Sp hd H mid nL dep rty ret f true (pc + 3) (A.1, q, A.2.2)
          | none => false)
        | none => false)
      | .ifnull _ => (match a_pr A.2.1 with
        | some (_, q) => a_ck tb md Sp hd H mid nL dep rty ret f true (pc + 3) (A.1, q, A.2.2)
        | none => false)
      | .tableswitch dflt lo hi offs => (match a_pi A.2.1 with
        | some (x, q) => decide (0 ≤ (pc : Int) + dflt) && (a_ck tb md Sp hd H mid nL dep rty ret f true ((pc : Int) + dflt).toNat (A.1, q, A.2.2) && (decide (hi - lo < (offs.size : Int)) && ((List.range offs.size).all fun i => match offs[i]? with
          | some off => decide (0 ≤ (pc : Int) + off) && (match a_rf A.2.2.1 x (lo + (i : Int)) (lo + (i : Int)) with
            | none => true
            | some E => a_ck tb md Sp hd H mid nL dep rty ret f true ((pc : Int) + off).toNat (A.1, q, E, A.2.2.2))
          | none => false)))
        | none => false)
      | .invokevirtual _ => (match r.2.2.2.1 with
        | 0 => Sp.any fun C => Nat.beq C.1 r.2.2.1 && (Nat.ble 1 dep && (match xM C.1 with
          | some mj => (match a_cl tb md mj 0 (dep - 1) A C with
            | some L => L.all fun A' => a_ck tb md Sp hd H mid nL dep rty ret f true (pc + 3) A'
            | none => false)
          | none => false))
        | 3 => (match A.2.1 with
          | g :: q => (Nat.beq g.1 4 && (decide (2 ≤ g.2.1) && (decide (g.2.1 ≤ 6) && (Nat.ble 2 dep && Nat.ble (a_cat q) 8)))) && a_ck tb md Sp hd H mid nL dep rty ret f true (pc + 3) (A.1, a_I (js_len (g.2.1.toNat - 2)).toInt (js_len (g.2.1.toNat - 2)).toInt :: q, A.2.2)
          | [] => false)
        | 4 => (match a_pi A.2.1 with
          | some (x, g :: q) => (Nat.beq g.1 4 && (decide (2 ≤ g.2.1) && (decide (g.2.1 ≤ 6) && (decide (0 ≤ (a_bd A.2.2.1 x).1) && (decide ((a_bd A.2.2.1 x).2 < (js_lens.getD (g.2.1.toNat - 2) 0 : Int)) && (Nat.ble 4 dep && Nat.ble (a_cat q) 8)))))) && a_ck tb md Sp hd H mid nL dep rty ret f true (pc + 3) (A.1, a_top :: q, A.2.2)
          | _ => false)
        | _ => false)
      | .invokestatic _ => cond (Nat.beq r.2.2.2.1 2) (match a_pi A.2.1 with
        | some (y, q) => (match a_pi q with
          | some (x, q) => Nat.ble 1 dep && (Nat.ble (a_cat q) 8 && a_ck tb md Sp hd H mid nL dep rty ret f true (pc + 3) (A.1, a_I (min (a_bd A.2.2.1 x).1 (a_bd A.2.2.1 y).1) (min (a_bd A.2.2.1 x).2 (a_bd A.2.2.1 y).2) :: q, A.2.2))
          | none => false)
        | none => false) (Nat.beq r.2.2.2.1 0 && (Sp.any fun C => Nat.beq C.1 r.2.2.1 && (Nat.ble 1 dep && (match xM C.1 with
        | some mj => (match a_cl tb md mj 1 (dep - 1) A C with
          | some L => L.all fun A' => a_ck tb md Sp hd H mid nL dep rty ret f true (pc + 3) A'
          | none => false)
        | none => false))))
      | _ => (match a_stp tb md nL r A with
        | some (n, A') => a_ck tb md Sp hd H mid nL dep rty ret f true (pc + n) A'
        | none => false)))
theorem js_u : ∀ n, n < 7 → (UInt32.ofNat n).toNat = n := by decide
theorem a_cl_mono {tb : aT} {md : List (Nat × Nat)} {mj : xm_M} {k d d' : Nat} {A : aS} {L : List aS} {C : aC} (hd : d ≤ d') (he : a_cl tb md mj k d A C = some L) : a_cl tb md mj k d' A C = some L := by
  unfold a_cl at he ⊢
  obtain ⟨c0, ce⟩ := xw_c he
  obtain ⟨c1, u1⟩ := xw_bb c0
  obtain ⟨c2, u2⟩ := xw_bb u1
  obtain ⟨c3, u3⟩ := xw_bb u2
  obtain ⟨c4, u4⟩ := xw_bb u3
  obtain ⟨c5, u5⟩ := xw_bb u4
  obtain ⟨c6, u6⟩ := xw_bb u5
  obtain ⟨c7, u7⟩ := xw_bb u6
  obtain ⟨c8, u8⟩ := xw_bb u7
  obtain ⟨cp, c9⟩ := xw_bb u8
  have c7' : Nat.ble C.2.1 d' = true := Nat.ble_eq.mpr (Nat.le_trans (xw_ble c7) hd)
  rw [c1, c2, c3, c4, c5, c6, c7', c8, cp, c9]
  exact ce
variable {tb : aT} {σ σe : aN → Int} {h0 : xh_H} {md : List (Nat × Nat)} {Sp : List aC} {hd : List aH} {H : aH} {mid nL dep d : Nat} {rty : Option FieldType} {ret : List (Option aV × aP)} {mi : xm_M}
set_option maxHeartbeats 8000000 in
theorem a_ck_ok (hm : mi.2.2.2.1 = nL ∧ mi.2.2.2.2.1 = rty) (hdep : dep ≤ d) (hSp : ∀ C ∈ Sp, a_spec tb C) (hσ : ∀ m, a_per m = true → σ m = σe m) (hn : 72 ≤ h0.1.length)
    (IH : ∀ G ∈ hd, ∀ (lv : List (Nat × Value)) (st : List Value) (h : xh_H), a_s tb (a_sn σ lv h) h0 md (a_hd G) lv st h → a_rv (a_sn σ lv h) G < a_rv σ H → ∃ v h', xR none d mid mi (G.1, lv, st, h, 0, 0) (v, h', 0, 0) ∧ a_post tb h0 md σe ret v h') :
    ∀ (f : Nat) (b : Bool) (pc : Nat) (A : aS) (lv : List (Nat × Value)) (st : List Value) (h : xh_H), a_ck tb md Sp hd H mid nL dep rty ret f b pc A = true → a_s tb σ h0 md A lv st h → ∃ v h', xR none d mid mi (pc, lv, st, h, 0, 0) (v, h', 0, 0) ∧ a_post tb h0 md σe ret v h' := by
  intro f
  induction f with
  | zero => intro b pc A lv st h he; cases he
  | succ f ih =>
    intro b pc A lv st h he hs
    have hs0 := hs
    obtain ⟨i1, i2, i3, i4, i5, i6, i7⟩ := hs0
    have hn' : 72 ≤ h.1.length := by rw [i2]; exact hn
    unfold a_ck at he
    cases hb : (b && hd.any (fun G => Nat.beq G.1 pc)) with
    | true =>
      rw [hb] at he
      dsimp only [cond_true] at he
      obtain ⟨G, hG, he⟩ := List.any_eq_true.mp he
      obtain ⟨g1, g2⟩ := xw_bb he
      have g1 := xw_beq g1
      obtain ⟨k1, k2⟩ := a_ed_ok hs hn' g2
      have := IH G hG lv st h k1 k2
      rw [g1] at this
      exact this
    | false =>
      rw [hb] at he
      dsimp only [cond_false] at he
      cases hr : xC mid pc with
      | none => rw [hr] at he; cases he
      | some r =>
        rw [hr] at he
        dsimp only at he
        have call : ∀ (k : Nat) (C : aC), ((k = 0 ∧ (∃ i, r.1 = .invokevirtual i) ∧ Nat.beq r.2.2.2.1 0 = true) ∨ (k = 1 ∧ (∃ i, r.1 = .invokestatic i) ∧ Nat.beq r.2.2.2.1 0 = true)) → C ∈ Sp → (Nat.beq C.1 r.2.2.1 && (Nat.ble 1 dep && (match xM C.1 with
            | some mj => (match a_cl tb md mj k (dep - 1) A C with
              | some L => L.all fun A' => a_ck tb md Sp hd H mid nL dep rty ret f true (pc + 3) A'
              | none => false)
            | none => false))) = true → ∃ v h', xR none d mid mi (pc, lv, st, h, 0, 0) (v, h', 0, 0) ∧ a_post tb h0 md σe ret v h' := by
          intro k C hk hC hc
          obtain ⟨g1, g2⟩ := xw_bb hc
          obtain ⟨g2, g3⟩ := xw_bb g2
          have g1 := xw_beq g1
          have g2 := xw_ble g2
          split at g3
          · rename_i mj hmj
            split at g3
            · rename_i L hcl
              obtain ⟨d', rfl⟩ : ∃ d', d = d' + 1 := ⟨d - 1, by omega⟩
              obtain ⟨As, q, v, h', e1, e2, e3, A', hA', e4⟩ := a_cl_ok (hk.imp (fun z => ⟨z.1, z.2.1⟩) (fun z => z)) g1.symm hmj (hSp C hC) hs hn' (a_cl_mono (d' := d') (by omega) hcl)
              obtain ⟨v2, h2, f1, f2⟩ := ih true (pc + 3) A' lv (v.toList ++ q) h' (List.all_eq_true.mp g3 A' hA') e4
              refine ⟨v2, h2, ?_, f2⟩
              refine xR_call hr ?_ ?_ e1 e2 f1
              · rcases hk with ⟨-, ⟨i, hi⟩, -⟩ | ⟨-, ⟨i, hi⟩, -⟩ <;> rw [hi] <;> rfl
              · obtain ⟨ri, r1, r2, r3, r4, r5⟩ := r
                dsimp only at hk
                rcases hk with ⟨-, ⟨i, rfl⟩, hbz⟩ | ⟨-, ⟨i, rfl⟩, hbz⟩
                · have hz := xw_beq hbz
                  subst hz
                  rfl
                · have hz := xw_beq hbz
                  subst hz
                  rfl
            · cases g3
          · cases g3
        have plain : (match a_stp tb md nL r A with
            | some (n, A') => a_ck tb md Sp hd H mid nL dep rty ret f true (pc + n) A'
            | none => false) = true → xe_isr r.1 = false → ∃ v h', xR none d mid mi (pc, lv, st, h, 0, 0) (v, h', 0, 0) ∧ a_post tb h0 md σe ret v h' := by
          intro hc hi
          split at hc
          · rename_i n A' hst
            obtain ⟨lv', st', h', e1, e2⟩ := a_stp_ok (d := d) (pc := pc) hs hst
            obtain ⟨v2, h2, f1, f2⟩ := ih true (pc + n) A' lv' st' h' hc e2
            rw [← hm.1] at e1
            exact ⟨v2, h2, xR_step hr hi e1 f1, f2⟩
          · cases hc
        obtain ⟨ri, r1, r2, r3, r4, r5⟩ := r
        cases ri
        case goto off =>
          obtain ⟨v2, h2, f1, f2⟩ := ih true r2 A lv st h he hs
          exact ⟨v2, h2, xR_step hr rfl rfl f1, f2⟩
        case ifCond k off =>
          dsimp only at he
          split at he
          · rename_i x q hq
            obtain ⟨g1, g2⟩ := xw_bb he
            obtain ⟨y, V, rfl, hy, hV, _⟩ := a_pi_ok i4 hq
            cases hc : xe_c k y 0 with
            | true =>
              obtain ⟨E, k1, k2⟩ := a_cmp_ok i5 hy (a_I_ok (lo := 0) (hi := 0) (x := 0) (by decide) (by decide)) hc
              rw [k1] at g1
              obtain ⟨v2, h2, f1, f2⟩ := ih true r2 (A.1, q, E, A.2.2.2) lv V h g1 ⟨i1, i2, i3, hV, k2, i6, i7⟩
              exact ⟨v2, h2, xR_step hr rfl (by simp [xe_2, xe_1, xp_i, hc]) f1, f2⟩
            | false =>
              obtain ⟨E, k1, k2⟩ := a_cmp_ok i5 hy (a_I_ok (lo := 0) (hi := 0) (x := 0) (by decide) (by decide)) (a_neg_ok hc)
              rw [k1] at g2
              obtain ⟨v2, h2, f1, f2⟩ := ih true (pc + 3) (A.1, q, E, A.2.2.2) lv V h g2 ⟨i1, i2, i3, hV, k2, i6, i7⟩
              exact ⟨v2, h2, xR_step hr rfl (by simp [xe_2, xe_1, xp_i, hc]) f1, f2⟩
          · cases he
        case if_icmp k off =>
          dsimp only at he
          split at he
          · rename_i y q hq
            split at he
            · rename_i x q2 hq2
              obtain ⟨g1, g2⟩ := xw_bb he
              obtain ⟨z, V, rfl, hz, hV, _⟩ := a_pi_ok i4 hq
              obtain ⟨w, V, rfl, hw, hV, _⟩ := a_pi_ok hV hq2
              cases hc : xe_c k w z with
              | true =>
                obtain ⟨E, k1, k2⟩ := a_cmp_ok i5 hw hz hc
                rw [k1] at g1
                obtain ⟨v2, h2, f1, f2⟩ := ih true r2 (A.1, q2, E, A.2.2.2) lv V h g1 ⟨i1, i2, i3, hV, k2, i6, i7⟩
                exact ⟨v2, h2, xR_step hr rfl (by simp [xe_2, xe_1, xp_ii, hc]) f1, f2⟩
              | false =>
                obtain ⟨E, k1, k2⟩ := a_cmp_ok i5 hw hz (a_neg_ok hc)
                rw [k1] at g2
                obtain ⟨v2, h2, f1, f2⟩ := ih true (pc + 3) (A.1, q2, E, A.2.2.2) lv V h g2 ⟨i1, i2, i3, hV, k2, i6, i7⟩
                exact ⟨v2, h2, xR_step hr rfl (by simp [xe_2, xe_1, xp_ii, hc]) f1, f2⟩
            · cases he
          · cases he
        case ireturn =>
          dsimp only at he
          split at he
          · rename_i a ha
            obtain ⟨t, ht, he⟩ := List.any_eq_true.mp he
            obtain ⟨he, hfk⟩ := xw_bb he
            split at he
            · rename_i b2 hb2
              rw [ha] at i4
              match st, i4, hs with
              | [v], i4, hs =>
                obtain ⟨g1, g2⟩ := a_rti_ok i5 hσ i4.1 he
                rw [← hm.2] at g1
                refine ⟨some v, h, xR_ret hr rfl g1, i1, i2, ⟨t, ht, ?_, a_fk_ok hs hn' hfk⟩, i7⟩
                rw [i2] at g2
                rw [hb2]
                exact ⟨v, rfl, g2⟩
            · cases he
          · cases he
        case return_ =>
          dsimp only at he
          split at he
          · rename_i ha
            obtain ⟨t, ht, he⟩ := List.any_eq_true.mp he
            obtain ⟨he, hfk⟩ := xw_bb he
            split at he
            · rename_i ht1
              split at he
              · rw [ha] at i4
                match st, i4, hs with
                | [], _, hs =>
                  refine ⟨none, h, xR_ret hr rfl ?_, i1, i2, ⟨t, ht, ?_, a_fk_ok hs hn' hfk⟩, i7⟩
                  · rw [hm.2]
                    rfl
                  · rw [ht1]
              · cases he
            · cases he
          · cases he
        case lreturn =>
          dsimp only at he
          split at he
          · rename_i a ha
            obtain ⟨t, ht, he⟩ := List.any_eq_true.mp he
            obtain ⟨he, hfk⟩ := xw_bb he
            split at he
            · rename_i b2 hb2
              rw [ha] at i4
              match st, i4, hs with
              | [v], i4, hs =>
                obtain ⟨c1, u1⟩ := xw_bb he
                obtain ⟨c2, u2⟩ := xw_bb u1
                obtain ⟨c3, u3⟩ := xw_bb u2
                obtain ⟨c4, c5⟩ := xw_bb u3
                have c1 := xw_beq c1
                have c2 := xw_beq c2
                have c3 := of_decide_eq_true c3
                have c4 := of_decide_eq_true c4
                have g := i4.1
                unfold a_v at g
                rw [c1] at g
                obtain ⟨x, rfl, g1, g2⟩ := g
                split at c5
                · refine ⟨some (.long x), h, xR_ret hr rfl (by rw [hm.2]; rfl), i1, i2, ⟨t, ht, ?_, a_fk_ok hs hn' hfk⟩, i7⟩
                  rw [hb2]
                  refine ⟨.long x, rfl, ?_⟩
                  unfold a_v
                  rw [c2]
                  exact ⟨x, rfl, by omega, by omega⟩
                · cases c5
            · cases he
          · cases he
        case areturn =>
          dsimp only at he
          split at he
          · rename_i a ha
            obtain ⟨t, ht, he⟩ := List.any_eq_true.mp he
            obtain ⟨he, hfk⟩ := xw_bb he
            split at he
            · rename_i b2 hb2
              rw [ha] at i4
              match st, i4, hs with
              | [v], i4, hs =>
                obtain ⟨c1, u1⟩ := xw_bb he
                obtain ⟨c2, u2⟩ := xw_bb u1
                obtain ⟨c3, c5⟩ := xw_bb u2
                have c1 := xw_beq c1
                have c2 := xw_beq c2
                have c3 := of_decide_eq_true c3
                have g := i4.1
                unfold a_v at g
                rw [c1] at g
                obtain ⟨x, rfl, g1⟩ := g
                split at c5
                · refine ⟨some (.ref x), h, xR_ret hr rfl (by rw [hm.2]; rfl), i1, i2, ⟨t, ht, ?_, a_fk_ok hs hn' hfk⟩, i7⟩
                  rw [hb2]
                  refine ⟨.ref x, rfl, ?_⟩
                  unfold a_v
                  rw [c2, c3, ← i2]
                  exact ⟨x, rfl, g1⟩
                · cases c5
            · cases he
          · cases he
        case aload k =>
          dsimp only at he
          split at he
          · rename_i a tgt hnul
            unfold a_nul at hnul
            split at hnul
            · rename_i rr hr2
              split at hnul
              · rename_i off2 hi2
                split at hnul
                · rename_i a2 ha2
                  obtain ⟨c1, c2⟩ := xw_c hnul
                  have c1 := xw_beq c1
                  have e1 : a2 = a := (Prod.mk.inj (Option.some.inj c2)).1
                  have e2 : rr.2.2.1 = tgt := (Prod.mk.inj (Option.some.inj c2)).2
                  subst e1
                  obtain ⟨g1, g2⟩ := xw_bb he
                  obtain ⟨v, k1, k2⟩ := i3 _ (a_lk_mem ha2)
                  have k3 := k2
                  unfold a_v at k3
                  rw [c1] at k3
                  have hld : ∀ w, xv_k 2 w = true → xl_get lv k = some w → xe_2 none mi.2.2.2.1 (.aload k, r1, r2, r3, r4, r5) d pc lv st h 0 0 = some (pc + 2, lv, w :: st, h, 0, 0) := by
                    intro w hw hg
                    unfold xe_2 xe_1 xe_ld
                    dsimp only
                    rw [hg]
                    dsimp only
                    rw [hw]
                    rfl
                  rcases k3 with rfl | ⟨q, rfl, hq⟩
                  · obtain ⟨v2, h2, f1, f2⟩ := ih true tgt A lv st h g2 hs
                    refine ⟨v2, h2, xR_step hr rfl (hld _ rfl k1) ?_, f2⟩
                    obtain ⟨j0, j1, j2, j3⟩ := rr
                    dsimp only at hi2 e2
                    subst hi2
                    refine xR_step hr2 rfl (o1 := (tgt, lv, st, h, 0, 0)) ?_ f1
                    rw [← e2]
                    rfl
                  · obtain ⟨v2, h2, f1, f2⟩ := ih true (pc + 5) ((k, (2, a2.2.1, 0, none, [], [])) :: A.1, A.2) lv st h g1 ⟨i1, i2, fun p hp => by
                      rcases List.mem_cons.mp hp with rfl | hp
                      · exact ⟨.ref q, k1, q, rfl, hq⟩
                      · exact i3 p hp, i4, i5, i6, i7⟩
                    refine ⟨v2, h2, xR_step hr rfl (hld _ rfl k1) ?_, f2⟩
                    obtain ⟨j0, j1, j2, j3⟩ := rr
                    dsimp only at hi2
                    subst hi2
                    exact xR_step hr2 rfl (o1 := (pc + 2 + 3, lv, st, h, 0, 0)) rfl f1
                · cases hnul
              · cases hnul
            · cases hnul
          · exact plain he rfl
        case ifnull off =>
          dsimp only at he
          split at he
          · rename_i t q hq
            obtain ⟨b2, V, rfl, hb2, hV⟩ := a_pr_ok i4 hq
            obtain ⟨v2, h2, f1, f2⟩ := ih true (pc + 3) (A.1, q, A.2.2) lv V h he ⟨i1, i2, i3, hV, i5, i6, i7⟩
            exact ⟨v2, h2, xR_step hr rfl rfl f1, f2⟩
          · cases he
        case tableswitch dflt lo hi offs =>
          dsimp only at he
          split at he
          · rename_i x q hq
            obtain ⟨c1, u1⟩ := xw_bb he
            obtain ⟨c2, u2⟩ := xw_bb u1
            obtain ⟨c3, c4⟩ := xw_bb u2
            have c3 := of_decide_eq_true c3
            obtain ⟨y, V, rfl, hy, hV, _⟩ := a_pi_ok i4 hq
            cases hc : (decide (y.toInt < lo) || decide (hi < y.toInt)) with
            | true =>
              obtain ⟨v2, h2, f1, f2⟩ := ih true _ (A.1, q, A.2.2) lv V h c2 ⟨i1, i2, i3, hV, i5, i6, i7⟩
              exact ⟨v2, h2, xR_step hr rfl (by simp only [xe_2, xe_1, xp_i]; rw [hc, c1]; rfl) f1, f2⟩
            | false =>
              rw [Bool.or_eq_false_iff, decide_eq_false_iff_not, decide_eq_false_iff_not] at hc
              have hlt : (y.toInt - lo).toNat < offs.size := by omega
              have g := List.all_eq_true.mp c4 (y.toInt - lo).toNat (List.mem_range.mpr hlt)
              split at g
              · rename_i off hoff
                obtain ⟨g1, g2⟩ := xw_bb g
                obtain ⟨E, k1, k2⟩ := a_rf_ok (lo := lo + ((y.toInt - lo).toNat : Int)) (hi := lo + ((y.toInt - lo).toNat : Int)) i5 hy (by omega) (by omega)
                rw [k1] at g2
                obtain ⟨v2, h2, f1, f2⟩ := ih true _ (A.1, q, E, A.2.2.2) lv V h g2 ⟨i1, i2, i3, hV, k2, i6, i7⟩
                have hc2 : (decide (y.toInt < lo) || decide (hi < y.toInt)) = false := by
                  rw [Bool.or_eq_false_iff, decide_eq_false_iff_not, decide_eq_false_iff_not]
                  exact hc
                exact ⟨v2, h2, xR_step hr rfl (by simp only [xe_2, xe_1, xp_i]; rw [hc2, hoff]; dsimp only [cond_false]; rw [g1]; rfl) f1, f2⟩
              · cases g
          · cases he
        case invokevirtual i =>
          dsimp only at he
          split at he
          · obtain ⟨C, hC, hc⟩ := List.any_eq_true.mp he
            exact call 0 C (Or.inl ⟨rfl, ⟨i, rfl⟩, rfl⟩) hC hc
          · split at he
            · rename_i g q hg
              obtain ⟨c0, ck⟩ := xw_bb he
              obtain ⟨c1, c0⟩ := xw_bb c0
              obtain ⟨c2, c0⟩ := xw_bb c0
              obtain ⟨c3, c0⟩ := xw_bb c0
              obtain ⟨c4, c5⟩ := xw_bb c0
              have c1 := xw_beq c1
              have c2 := of_decide_eq_true c2
              have c3 := of_decide_eq_true c3
              have c4 := xw_ble c4
              rw [hg] at i4
              match st, i4 with
              | v :: V, i4 =>
                have hv := i4.1
                unfold a_v at hv
                rw [c1] at hv
                have hv : v = .float (UInt32.ofNat g.2.1.toNat) := hv
                subst hv
                have hu : (UInt32.ofNat g.2.1.toNat).toNat = g.2.1.toNat := js_u _ (by omega)
                obtain ⟨d', rfl⟩ : ∃ d', d = d' + 2 := ⟨d - 2, by omega⟩
                obtain ⟨v2, h2, f1, f2⟩ := ih true (pc + 3) _ lv (.int (js_len (g.2.1.toNat - 2)) :: V) h ck ⟨i1, i2, i3, ⟨a_vi rfl (a_I_ok (Int.le_refl _) (Int.le_refl _)), i4.2⟩, i5, i6, i7⟩
                refine ⟨v2, h2, xR_step hr rfl (o1 := (pc + 3, lv, .int (js_len (g.2.1.toNat - 2)) :: V, h, 0, 0)) ?_ f1, f2⟩
                show (cond (js_ok (UInt32.ofNat g.2.1.toNat) && Nat.ble (xm_cat V) 8) (some (pc + 3, lv, .int (js_len ((UInt32.ofNat g.2.1.toNat).toNat - 2)) :: V, h, 0, 0)) none) = _
                have hok : js_ok (UInt32.ofNat g.2.1.toNat) = true := by
                  unfold js_ok
                  rw [hu, Nat.ble_eq.mpr (show 2 ≤ g.2.1.toNat by omega), Nat.ble_eq.mpr (show g.2.1.toNat ≤ 6 by omega)]
                  rfl
                rw [hok, a_cat_ok i4.2, c5, hu]
                rfl
            · cases he
          · split at he
            · rename_i x g q hq
              obtain ⟨c0, ck⟩ := xw_bb he
              obtain ⟨c1, c0⟩ := xw_bb c0
              obtain ⟨c2, c0⟩ := xw_bb c0
              obtain ⟨c3, c0⟩ := xw_bb c0
              obtain ⟨c6, c0⟩ := xw_bb c0
              obtain ⟨c7, c0⟩ := xw_bb c0
              obtain ⟨c4, c5⟩ := xw_bb c0
              have c1 := xw_beq c1
              have c2 := of_decide_eq_true c2
              have c3 := of_decide_eq_true c3
              have c4 := xw_ble c4
              have c6 := of_decide_eq_true c6
              have c7 := of_decide_eq_true c7
              obtain ⟨y, V, rfl, hy, hV, _⟩ := a_pi_ok i4 hq
              have by' := a_bd_ok i5 hy
              match V, hV with
              | v :: V, hV =>
                have hv := hV.1
                unfold a_v at hv
                rw [c1] at hv
                have hv : v = .float (UInt32.ofNat g.2.1.toNat) := hv
                subst hv
                have hu : (UInt32.ofNat g.2.1.toNat).toNat = g.2.1.toNat := js_u _ (by omega)
                obtain ⟨d', rfl⟩ : ∃ d', d = d' + 4 := ⟨d - 4, by omega⟩
                obtain ⟨v2, h2, f1, f2⟩ := ih true (pc + 3) _ lv (.int (js_ch (g.2.1.toNat - 2) y.toNatClampNeg) :: V) h ck ⟨i1, i2, i3, ⟨a_vi rfl (a_top_ok _), hV.2⟩, i5, i6, i7⟩
                refine ⟨v2, h2, xR_step hr rfl (o1 := (pc + 3, lv, .int (js_ch (g.2.1.toNat - 2) y.toNatClampNeg) :: V, h, 0, 0)) ?_ f1, f2⟩
                show (cond (js_ok (UInt32.ofNat g.2.1.toNat) && (xe_in y (js_lens.getD ((UInt32.ofNat g.2.1.toNat).toNat - 2) 0) && Nat.ble (xm_cat V) 8)) (some (pc + 3, lv, .int (js_ch ((UInt32.ofNat g.2.1.toNat).toNat - 2) y.toNatClampNeg) :: V, h, 0, 0)) none) = _
                have hok : js_ok (UInt32.ofNat g.2.1.toNat) = true := by
                  unfold js_ok
                  rw [hu, Nat.ble_eq.mpr (show 2 ≤ g.2.1.toNat by omega), Nat.ble_eq.mpr (show g.2.1.toNat ≤ 6 by omega)]
                  rfl
                rw [hok, hu, a_xin (by omega) (by omega), a_cat_ok hV.2, c5]
                rfl
            · cases he
          · cases he
        case invokestatic i =>
          dsimp only at he
          cases hb2 : Nat.beq r3 2 with
          | true =>
            rw [hb2] at he
            dsimp only [cond_true] at he
            have e3 := xw_beq hb2
            subst e3
            split at he
            · rename_i y q hq
              split at he
              · rename_i x q2 hq2
                obtain ⟨c1, c2⟩ := xw_bb he
                obtain ⟨c2, c3⟩ := xw_bb c2
                have c1 := xw_ble c1
                obtain ⟨z, V, rfl, hz, hV, _⟩ := a_pi_ok i4 hq
                obtain ⟨w, V, rfl, hw, hV, _⟩ := a_pi_ok hV hq2
                have bz := a_bd_ok i5 hz
                have bw := a_bd_ok i5 hw
                have hmin : a_i σ (a_I (min (a_bd A.2.2.1 x).1 (a_bd A.2.2.1 y).1) (min (a_bd A.2.2.1 x).2 (a_bd A.2.2.1 y).2)) (if z < w then z else w) := by
                  split
                  · rename_i hlt
                    rw [Int32.lt_iff_toInt_lt] at hlt
                    exact a_I_ok (by omega) (by omega)
                  · rename_i hlt
                    rw [Int32.lt_iff_toInt_lt] at hlt
                    exact a_I_ok (by omega) (by omega)
                obtain ⟨v2, h2, f1, f2⟩ := ih true (pc + 3) _ lv (.int (if z < w then z else w) :: V) h c3 ⟨i1, i2, i3, ⟨a_vi rfl hmin, hV⟩, i5, i6, i7⟩
                obtain ⟨d', rfl⟩ : ∃ d', d = d' + 1 := ⟨d - 1, by omega⟩
                refine ⟨v2, h2, xR_step hr rfl (o1 := (pc + 3, lv, .int (if z < w then z else w) :: V, h, 0, 0)) ?_ f1, f2⟩
                show (cond (Nat.ble (xm_cat V) 8) (some (pc + 3, lv, .int (if z < w then z else w) :: V, h, 0, 0)) none) = _
                rw [a_cat_ok hV, c2]
                rfl
              · cases he
            · cases he
          | false =>
            rw [hb2] at he
            dsimp only [cond_false] at he
            obtain ⟨hz, he⟩ := xw_bb he
            obtain ⟨C, hC, hc⟩ := List.any_eq_true.mp he
            exact call 1 C (Or.inr ⟨rfl, ⟨i, rfl⟩, hz⟩) hC hc
        case if_acmp k off =>
          cases k with
          | eq => exact plain he rfl
          | ne =>
            dsimp only at he
            split at he
            · rename_i t q hq
              split at he
              · rename_i t2 q2 hq2
                obtain ⟨g1, g2⟩ := xw_bb he
                obtain ⟨b2, V, rfl, hb2, hV⟩ := a_pr_ok i4 hq
                obtain ⟨b3, V, rfl, hb3, hV⟩ := a_pr_ok hV hq2
                have hc1 : (Nat.ble (b3 + 1) h.1.length && Nat.ble (b2 + 1) h.1.length) = true := by
                  rw [Nat.ble_eq.mpr hb3.1, Nat.ble_eq.mpr hb2.1]
                  rfl
                cases hbb : Nat.beq b3 b2 with
                | true =>
                  obtain ⟨v2, h2, f1, f2⟩ := ih true (pc + 3) (A.1, q2, A.2.2) lv V h g2 ⟨i1, i2, i3, hV, i5, i6, i7⟩
                  exact ⟨v2, h2, xR_step hr rfl (by simp only [xe_2, xe_1]; rw [hc1, hbb]; rfl) f1, f2⟩
                | false =>
                  obtain ⟨v2, h2, f1, f2⟩ := ih true r2 (A.1, q2, A.2.2) lv V h g1 ⟨i1, i2, i3, hV, i5, i6, i7⟩
                  exact ⟨v2, h2, xR_step hr rfl (by simp only [xe_2, xe_1]; rw [hc1, hbb]; rfl) f1, f2⟩
              · cases he
            · cases he
        all_goals first
          | exact plain he rfl
          | (cases he; done)
end XAP
end
section
section XAQ
/-- an argument at a method's entry -/
def a_ea (q : Nat × aV) : Nat × aV := (q.1, cond (Nat.beq q.2.1 0) (0, q.2.2.1, q.2.2.2.1, some ((0, 100 + q.1), 0), [], []) (q.2.1, q.2.2.1, q.2.2.2.1, none, [], []))
def a_e0 (args : List aV) (P : aP) : aS := ((a_sl 0 args).map a_ea, [], ((a_sl 0 args).map a_ea).flatMap (fun q => a_fo q.2), a_pf2 P)
variable {tb : aT}
theorem a_e0_ok {C : aC} {vs : List Value} {h : xh_H} {σ : aN → Int} (hi : a_inv tb h) (ha : a_st σ h.1.length C.2.2.1 vs) (hP : a_fp C.2.2.2.2.2 h) : a_s tb (a_sg vs) h C.2.2.2.2.1 (a_e0 C.2.2.1 C.2.2.2.2.2) (lv_args 0 vs) [] h := by
  have hL : ∀ q ∈ (a_sl 0 C.2.2.1).map a_ea, ∃ v, xl_get (lv_args 0 vs) q.1 = some v ∧ a_v (a_sg vs) h.1.length q.2 v := by
    intro q hq
    obtain ⟨p, hp, rfl⟩ := List.mem_map.mp hq
    obtain ⟨v, g1, g2⟩ := a_sl_ok (i := 0) ha p hp
    refine ⟨v, g1, ?_⟩
    obtain ⟨i, k, lo, hi', o, ft, ff⟩ := p
    unfold a_ea
    dsimp only at g1 g2 ⊢
    cases hb : Nat.beq k 0 with
    | true =>
      have hb := xw_beq hb
      subst hb
      obtain ⟨x, rfl, k1, k2, -⟩ := g2
      refine ⟨x, rfl, k1, k2, ?_, fun _ q hq => (by cases hq), fun _ q hq => (by cases hq)⟩
      intro m c e
      cases e
      unfold a_sg
      rw [show (100 + i) - 100 = i from by omega, g1]
      dsimp only
      omega
    | false =>
      dsimp only [cond_false]
      unfold a_v at g2 ⊢
      dsimp only at g2 ⊢
      split at g2
      · cases hb
      · exact g2
      · exact g2
      · exact g2
      · exact g2
  refine ⟨hi, rfl, hL, trivial, ?_, a_pf2_ok hP, fun _ _ _ _ => rfl⟩
  intro p hp
  obtain ⟨q, k1, k2⟩ := List.mem_flatMap.mp hp
  obtain ⟨v, -, k3⟩ := hL q k1
  exact a_fo_ok k3 p k2
/-- A METHOD THAT THE CHECKER PASSES KEEPS ITS CONTRACT -/
theorem a_meth {C : aC} {Sp : List aC} {hd : List aH} {mi : xm_M} (fuel : Nat) (hM : xM C.1 = some mi) (hSp : ∀ D ∈ Sp, a_spec tb D) (hck : (hd.all fun H => a_h0 H && a_ck tb C.2.2.2.2.1 Sp hd H C.1 mi.2.2.2.1 C.2.1 mi.2.2.2.2.1 C.2.2.2.1 fuel false H.1 (a_hd H)) = true) (hent : (hd.any fun G => Nat.beq G.1 0 && a_en tb (a_e0 C.2.2.1 C.2.2.2.2.2) G) = true) : a_spec tb C := by
  intro d mi' vs h σ hd1 hM' hi hn ha hP
  rw [hM] at hM'
  cases hM'
  have main : ∀ (N : Nat) (G : aH), G ∈ hd → ∀ (σ' : aN → Int) (lv : List (Nat × Value)) (st : List Value) (h1 : xh_H), a_s tb σ' h C.2.2.2.2.1 (a_hd G) lv st h1 → (∀ m, a_per m = true → σ' m = a_sg vs m) → (a_rv σ' G).toNat < N → ∃ v h', xR none d C.1 mi (G.1, lv, st, h1, 0, 0) (v, h', 0, 0) ∧ a_post tb h C.2.2.2.2.1 (a_sg vs) C.2.2.2.1 v h' := by
    intro N
    induction N with
    | zero => intro G _ σ' lv st h1 _ _ hN; omega
    | succ N ihN =>
      intro G hG σ' lv st h1 hs hσ hN
      obtain ⟨g1, g2⟩ := xw_bb (List.all_eq_true.mp hck G hG)
      have r0 := a_h0_ok hs.2.2.2.2.1 g1
      refine a_ck_ok (σ := σ') (H := G) ⟨rfl, rfl⟩ hd1 hSp hσ hn ?_ fuel false G.1 (a_hd G) lv st h1 g2 hs
      intro G2 hG2 lv2 st2 h2 hs2 hlt
      have r2 := a_h0_ok hs2.2.2.2.2.1 (xw_bb (List.all_eq_true.mp hck G2 hG2)).1
      refine ihN G2 hG2 _ lv2 st2 h2 hs2 (fun m hm => ?_) (by omega)
      rw [a_sn_per hm]
      exact hσ m hm
  obtain ⟨G, hG, he⟩ := List.any_eq_true.mp hent
  obtain ⟨g1, g2⟩ := xw_bb he
  have g1 := xw_beq g1
  have hs := a_en_ok (a_e0_ok hi ha hP) hn g2
  have := main _ G hG _ _ _ _ hs (fun m hm => a_sn_per hm) (Nat.lt_succ_self _)
  rw [g1] at this
  exact this
end XAQ
end
section
section XB0
/-- the bounds of every field and element -/
def a_tb : aT := [[(2, 1, 0), (2, 3, 0), (2, 11, 0), (2, 13, 0), (2, 14, 0), (2, 21, 0), (2, 28, 0), (2, 35, 0), (0, 0, 8), (0, 1, 12), (0, (-2147483648), 2147483647), (0, 0, 4)],
  [(2, 2, 0), (0, 0, 640)],
  [(0, (-128), 127)],
  [(2, 4, 0), (2, 8, 0), (2, 9, 0), (2, 10, 0), (0, 0, 12), (0, (-2147483648), 2147483647), (0, (-1), 12), (0, 0, 16), (0, 0, 4), (0, 0, 639)],
  [(2, 5, 0), (2, 6, 0), (2, 7, 0), (0, 0, 400)],
  [(0, 0, 7)],
  [(0, (-2147483648), 2147483647)],
  [(0, (-2147483648), 2147483647)],
  [(2, 1, 0), (0, 0, 639), (0, 0, 640), (0, (-1), 255), (0, 0, 639), (0, 0, 640), (0, (-2147483648), 2147483647)],
  [(0, 0, 639)],
  [(0, 0, 640)],
  [(0, (-2147483648), 999), (2, 12, 0)],
  [(1, (-9223372036854775808), 9223372036854775807)],
  [(3, 11, 0)],
  [(2, 15, 0), (2, 16, 0), (2, 17, 0), (2, 18, 0), (2, 19, 0), (2, 20, 0), (2, 11, 0), (0, 0, 12), (0, 0, 4095), (0, (-2147483648), 924), (0, (-2147483648), 924), (0, 0, 4095), (0, 0, 4095)],
  [(0, 0, 4095)],
  [(0, 0, 4095)],
  [(0, (-2147483648), 2147483647)],
  [(0, 0, 1000000)],
  [(0, 0, 4095)],
  [(1, (-9223372036854775808), 9223372036854775807)],
  [(2, 22, 0), (0, (-2147483648), 2147483647), (2, 14, 0), (2, 23, 0), (2, 24, 0), (2, 25, 0), (2, 26, 0), (2, 27, 0), (0, 0, 12), (0, 0, 63), (0, (-2147483648), 2147483647), (0, (-3), 63), (0, 0, 4095), (0, 0, 4095), (2, 11, 0), (0, 0, 12)],
  [(0, (-1), 60)],
  [(0, 0, 11)],
  [(0, 0, 11)],
  [(0, 0, 12)],
  [(0, (-1), 60)],
  [(0, (-1), 60)],
  [(2, 29, 0), (0, 0, 1), (2, 30, 0), (2, 31, 0), (2, 32, 0), (2, 33, 0), (2, 34, 0)],
  [(0, (-1), 6)],
  [(0, 0, 6)],
  [(0, 0, 127)],
  [(0, 0, 127)],
  [(0, 0, 6)],
  [(0, (-2147483648), 2147483647)],
  [(2, 36, 0), (2, 37, 0), (2, 38, 0), (0, 0, 60)],
  [(0, 0, 4095)],
  [(0, (-2147483648), 2147483647)],
  [(0, 0, 1)],
  [(0, 0, 1), (2, 40, 0), (0, 0, 640), (0, (-2147483648), 2147483647), (0, 1, 12), (0, 0, 1), (0, 0, 640), (0, 0, 640), (0, 0, 640), (0, 0, 4), (0, (-2147483648), 2147483647), (0, 0, 255), (0, (-640), 640), (0, 0, 4), (0, 0, 640), (1, (-9223372036854775808), 9223372036854775807), (2, 41, 0), (2, 42, 0), (2, 43, 0), (2, 44, 0), (2, 45, 0), (2, 46, 0), (2, 47, 0), (2, 48, 0), (2, 49, 0), (2, 50, 0), (0, 0, 16), (0, 0, 120), (0, 0, 12), (0, 0, 1), (0, 0, 1), (2, 51, 0), (2, 52, 0), (0, 0, 8), (2, 53, 0), (0, 0, 4096), (1, (-9223372036854775808), 9223372036854775807), (1, (-9223372036854775808), 9223372036854775807), (2, 54, 0), (2, 55, 0), (2, 56, 0), (2, 57, 0), (2, 58, 0), (2, 59, 0), (2, 60, 0), (2, 61, 0), (0, 0, 12), (0, 0, 924), (0, 0, 924), (0, (-2147483648), 2147483647), (0, (-2147483648), 100000), (0, 0, 1), (0, 0, 12), (2, 62, 0), (2, 63, 0), (2, 64, 0), (2, 65, 0), (2, 66, 0), (2, 67, 0), (0, 0, 1), (2, 68, 0), (2, 69, 0), (2, 70, 0), (0, 0, 60)],
  [(0, 0, 255)],
  [(0, 0, 1)],
  [(0, 0, 1)],
  [(0, 0, 1)],
  [(0, 0, 1)],
  [(0, 0, 1)],
  [(0, (-2147483648), 2147483647)],
  [(0, 0, 2)],
  [(0, 0, 9999)],
  [(0, (-2147483648), 2147483647)],
  [(1, (-9223372036854775808), 9223372036854775807)],
  [(0, (-2147483648), 999)],
  [(0, (-2147483648), 2147483647)],
  [(0, 0, 1)],
  [(0, 0, 11)],
  [(0, (-2147483648), 2147483647)],
  [(0, 0, 11)],
  [(0, 0, 100)],
  [(0, (-2147483648), 100000)],
  [(0, 0, 4095)],
  [(0, 0, 4095)],
  [(0, 0, 1)],
  [(0, 0, 6)],
  [(0, 0, 1)],
  [(0, 0, 1)],
  [(0, 0, 6)],
  [(0, 0, 6)],
  [(0, 0, 6)],
  [(0, 0, 4095)],
  [(0, (-2147483648), 2147483647)],
  [(0, 0, 1)],
  [(1, (-9223372036854775808), 9223372036854775807)]]
theorem a_sp_n {tb : aT} : ∀ D ∈ ([] : List aC), a_spec tb D := fun _ h => nomatch h
theorem a_sp_c {tb : aT} {C : aC} {L : List aC} (h : a_spec tb C) (t : ∀ D ∈ L, a_spec tb D) : ∀ D ∈ C :: L, a_spec tb D := fun D hD => (List.mem_cons.mp hD).elim (fun e => by rw [e]; exact h) (t D)
end XB0
end
section
section XHX
/-- what changes the frame alone -/
def xa_p (i : Instr) : Bool := match i with
  | .iconst _ => true
  | .bipush _ => true
  | .sipush _ => true
  | .lconst _ => true
  | .ldc_w _ => true
  | .ldc2_w _ => true
  | .goto _ => true
  | .ldc _ => true
  | .iload_n _ => true
  | .iload _ => true
  | .lload_n _ => true
  | .lload _ => true
  | .aload_n _ => true
  | .aload _ => true
  | .istore_n _ => true
  | .istore _ => true
  | .astore_n _ => true
  | .astore _ => true
  | .lstore_n _ => true
  | .lstore _ => true
  | .iadd => true
  | .isub => true
  | .imul => true
  | .iand => true
  | .ior => true
  | .ixor => true
  | .ishl => true
  | .ishr => true
  | .iushr => true
  | .ladd => true
  | .lsub => true
  | .lmul => true
  | .lcmp => true
  | .land => true
  | .lor => true
  | .lushr => true
  | .lshl => true
  | .i2l => true
  | .l2i => true
  | .i2b => true
  | .iinc _ _ => true
  | .dup => true
  | .pop => true
  | .dup2 => true
  | .dup_x2 => true
  | _ => false
set_option maxHeartbeats 4000000 in
set_option maxRecDepth 100000 in
theorem xe_1_pure {nL : Nat} {r : xr_R} {pc : Nat} {lv : List (Nat × Value)} {st : List Value} {h : xh_H} {c s : Nat} {pc' : Nat} {lv' : List (Nat × Value)} {st' : List Value} {h' : xh_H} {c' s' : Nat} (he : xe_1 nL r pc lv st h c s = some (pc', lv', st', h', c', s')) (hp : xa_p r.1 = true) : h' = h ∧ c' = c ∧ s' = s := by
  obtain ⟨i, len, ra, rb, rK, ri⟩ := r
  cases i with
  | iconst _ => cases he; exact ⟨rfl, rfl, rfl⟩
  | bipush _ => cases he; exact ⟨rfl, rfl, rfl⟩
  | sipush _ => cases he; exact ⟨rfl, rfl, rfl⟩
  | lconst _ => cases he; exact ⟨rfl, rfl, rfl⟩
  | ldc_w _ => cases he; exact ⟨rfl, rfl, rfl⟩
  | ldc2_w _ => cases he; exact ⟨rfl, rfl, rfl⟩
  | goto _ => cases he; exact ⟨rfl, rfl, rfl⟩
  | ldc _ => cases rb <;> (cases he; exact ⟨rfl, rfl, rfl⟩)
  | iload_n _ => obtain ⟨v, _, _, h3⟩ := xs_ld he; cases h3; exact ⟨rfl, rfl, rfl⟩
  | iload _ => obtain ⟨v, _, _, h3⟩ := xs_ld he; cases h3; exact ⟨rfl, rfl, rfl⟩
  | lload_n _ => obtain ⟨v, _, _, h3⟩ := xs_ld he; cases h3; exact ⟨rfl, rfl, rfl⟩
  | lload _ => obtain ⟨v, _, _, h3⟩ := xs_ld he; cases h3; exact ⟨rfl, rfl, rfl⟩
  | aload_n _ => obtain ⟨v, _, _, h3⟩ := xs_ld he; cases h3; exact ⟨rfl, rfl, rfl⟩
  | aload _ => obtain ⟨v, _, _, h3⟩ := xs_ld he; cases h3; exact ⟨rfl, rfl, rfl⟩
  | istore_n _ => obtain ⟨v, q, _, _, _, h3⟩ := xs_st1 he; cases h3; exact ⟨rfl, rfl, rfl⟩
  | istore _ => obtain ⟨v, q, _, _, _, h3⟩ := xs_st1 he; cases h3; exact ⟨rfl, rfl, rfl⟩
  | astore_n _ => obtain ⟨v, q, _, _, _, h3⟩ := xs_st1 he; cases h3; exact ⟨rfl, rfl, rfl⟩
  | astore _ => obtain ⟨v, q, _, _, _, h3⟩ := xs_st1 he; cases h3; exact ⟨rfl, rfl, rfl⟩
  | lstore_n _ => obtain ⟨v, q, _, _, _, h3⟩ := xs_st2 he; cases h3; exact ⟨rfl, rfl, rfl⟩
  | lstore _ => obtain ⟨v, q, _, _, _, h3⟩ := xs_st2 he; cases h3; exact ⟨rfl, rfl, rfl⟩
  | iadd => obtain ⟨y, x, q, _, h2⟩ := xp_ii_v he; cases h2; exact ⟨rfl, rfl, rfl⟩
  | isub => obtain ⟨y, x, q, _, h2⟩ := xp_ii_v he; cases h2; exact ⟨rfl, rfl, rfl⟩
  | imul => obtain ⟨y, x, q, _, h2⟩ := xp_ii_v he; cases h2; exact ⟨rfl, rfl, rfl⟩
  | iand => obtain ⟨y, x, q, _, h2⟩ := xp_ii_v he; cases h2; exact ⟨rfl, rfl, rfl⟩
  | ior => obtain ⟨y, x, q, _, h2⟩ := xp_ii_v he; cases h2; exact ⟨rfl, rfl, rfl⟩
  | ixor => obtain ⟨y, x, q, _, h2⟩ := xp_ii_v he; cases h2; exact ⟨rfl, rfl, rfl⟩
  | ishl => obtain ⟨y, x, q, _, h2⟩ := xp_ii_v he; cases h2; exact ⟨rfl, rfl, rfl⟩
  | ishr => obtain ⟨y, x, q, _, h2⟩ := xp_ii_v he; cases h2; exact ⟨rfl, rfl, rfl⟩
  | iushr => obtain ⟨y, x, q, _, h2⟩ := xp_ii_v he; cases h2; exact ⟨rfl, rfl, rfl⟩
  | ladd => obtain ⟨y, x, q, _, h2⟩ := xp_ll_v he; cases h2; exact ⟨rfl, rfl, rfl⟩
  | lsub => obtain ⟨y, x, q, _, h2⟩ := xp_ll_v he; cases h2; exact ⟨rfl, rfl, rfl⟩
  | lmul => obtain ⟨y, x, q, _, h2⟩ := xp_ll_v he; cases h2; exact ⟨rfl, rfl, rfl⟩
  | lcmp => obtain ⟨y, x, q, _, h2⟩ := xp_ll_v he; cases h2; exact ⟨rfl, rfl, rfl⟩
  | land => obtain ⟨y, x, q, _, h2⟩ := xp_ll_v he; cases h2; exact ⟨rfl, rfl, rfl⟩
  | lor => obtain ⟨y, x, q, _, h2⟩ := xp_ll_v he; cases h2; exact ⟨rfl, rfl, rfl⟩
  | lushr => obtain ⟨y, x, q, _, h2⟩ := xp_il_v he; cases h2; exact ⟨rfl, rfl, rfl⟩
  | lshl => obtain ⟨y, x, q, _, h2⟩ := xp_il_v he; cases h2; exact ⟨rfl, rfl, rfl⟩
  | i2l => obtain ⟨x, q, _, h2⟩ := xp_i_v he; cases h2; exact ⟨rfl, rfl, rfl⟩
  | l2i => obtain ⟨x, q, _, h2⟩ := xp_l_v he; cases h2; exact ⟨rfl, rfl, rfl⟩
  | i2b => obtain ⟨x, q, _, h2⟩ := xp_i_v he; cases h2; exact ⟨rfl, rfl, rfl⟩
  | iinc k n =>
    have he : (match xl_get lv k with
      | some (.int x) => cond (Nat.ble (k + 1) nL) (some (pc + 3, xl_1 lv k (.int (x + Int32.ofInt n)), st, h, c, s)) none
      | _ => none) = some (pc', lv', st', h', c', s') := he
    split at he
    · obtain ⟨_, h3⟩ := xw_c he; cases h3; exact ⟨rfl, rfl, rfl⟩
    · cases he
  | dup =>
    match st, he with
    | a :: q, he => obtain ⟨_, h3⟩ := xw_c he; cases h3; exact ⟨rfl, rfl, rfl⟩
  | pop =>
    match st, he with
    | a :: q, he => obtain ⟨_, h3⟩ := xw_c he; cases h3; exact ⟨rfl, rfl, rfl⟩
  | dup2 =>
    match st, he with
    | a :: b :: q, he => obtain ⟨_, h3⟩ := xw_c he; cases h3; exact ⟨rfl, rfl, rfl⟩
  | dup_x2 =>
    match st, he with
    | a :: b :: d :: q, he => obtain ⟨_, h3⟩ := xw_c he; cases h3; exact ⟨rfl, rfl, rfl⟩
  | _ => cases hp
/-- a lasting reference of an object -/
def a_rfk (tb : aT) (c ci k : Nat) : Option Nat := cond (Nat.blt k (xh_N ci) && (Nat.beq (a_ent tb (0, ci) c k).1 2 && a_fz (a_ent tb (0, ci) c k).2.1.toNat)) (some (a_ent tb (0, ci) c k).2.1.toNat) none
/-- shapes and lasting references are as the table has them -/
def a_rq (tb : aT) (h : xh_H) : Prop := 72 ≤ h.1.length ∧ (∀ (c : Nat) (s : Nat × Nat), a_sh[c]? = some s → h.1[c]? = some s) ∧ ∀ (c k ci t : Nat), a_sh[c]? = some (0, ci) → a_rfk tb c ci k = some t → xg none h.2.2.2 c k = some t
theorem a_sh_lt {c : Nat} {s : Nat × Nat} (h : a_sh[c]? = some s) : c < 72 := (List.getElem?_eq_some_iff.mp h).1
theorem a_rq_of {tb : aT} {h : xh_H} (hi : a_inw tb h) (hn : 72 ≤ h.1.length) : a_rq tb h := by
  have sh : ∀ (c : Nat) (s : Nat × Nat), a_sh[c]? = some s → h.1[c]? = some s := by
    intro c s hs
    have hc := a_sh_lt hs
    obtain ⟨s2, e⟩ : ∃ s2, h.1[c]? = some s2 := ⟨_, List.getElem?_eq_getElem (show c < h.1.length by omega)⟩
    have g := (hi c s2 e).1
    rw [a_tg_lt hc, hs] at g
    rw [e, ← Option.some.inj g]
  refine ⟨hn, sh, ?_⟩
  intro c k ci t hs ht
  have hc := a_sh_lt hs
  unfold a_rfk at ht
  obtain ⟨g1, g2⟩ := xw_c ht
  obtain ⟨g1, g3⟩ := xw_bb g1
  obtain ⟨g3, g4⟩ := xw_bb g3
  have g1 := Nat.blt_eq.mp g1
  have g3 := xw_beq g3
  have g2 := Option.some.inj g2
  have g := (hi c _ (sh c _ hs)).2 k g1
  rw [a_tg_lt hc] at g
  unfold a_e at g
  rw [g3] at g
  obtain ⟨q, e1, e2⟩ := g
  rw [g2] at e2 g4
  rw [e1]
  congr 1
  by_cases hq : q < 72
  · rw [← e2.2, a_tg_lt hq]
  · exfalso
    obtain ⟨-, g5⟩ := xw_bb g4
    obtain ⟨g5, g6⟩ := xw_bb g5
    rcases a_tg_ge hq with e | e
    · rw [← e2.2, e] at g5
      cases g5
    · rw [← e2.2, e] at g6
      cases g6
theorem a_rq_ui {tb : aT} {h : xh_H} {c k : Nat} {x : Int32} (hq : a_rq tb h) : a_rq tb (xh_ui h c k x) := hq
theorem a_rq_ul {tb : aT} {h : xh_H} {c k : Nat} {x : Int64} (hq : a_rq tb h) : a_rq tb (xh_ul h c k x) := hq
abbrev xa_S : Type := Nat × List (Nat × Value) × List Value × xh_H
/-- the heap's instructions, with what they ask -/
def xa_h (tb : aT) (r : xr_R) (pc : Nat) (lv : List (Nat × Value)) (st : List Value) (h : xh_H) : Option (xa_S × Option Prop) := match r.1 with
  | .getfield _ => (match st with
    | .ref c :: q => (match a_sh[c]? with
      | some (0, ci) => cond (Nat.beq ci r.2.2.1) (match xh_ty r.2.2.1 r.2.2.2.1 with
        | .int => some ((pc + 3, lv, .int (xg 0 h.2.1 c r.2.2.2.1) :: q, h), none)
        | .boolean => some ((pc + 3, lv, .int (xg 0 h.2.1 c r.2.2.2.1) :: q, h), none)
        | .long => some ((pc + 3, lv, .long (xg 0 h.2.2.1 c r.2.2.2.1) :: q, h), none)
        | .object _ => (match a_rfk tb c ci r.2.2.2.1 with
          | some t => some ((pc + 3, lv, .ref t :: q, h), none)
          | none => none)
        | .array _ => (match a_rfk tb c ci r.2.2.2.1 with
          | some t => some ((pc + 3, lv, .ref t :: q, h), none)
          | none => none)
        | _ => none) none
      | _ => none)
    | _ => none)
  | .putfield _ => (match st with
    | .int x :: .ref c :: q => (match a_sh[c]? with
      | some (0, ci) => cond (Nat.beq ci r.2.2.1) (match xh_ty r.2.2.1 r.2.2.2.1 with
        | .int => some ((pc + 3, lv, q, xh_ui h c r.2.2.2.1 x), none)
        | .boolean => some ((pc + 3, lv, q, xh_ui h c r.2.2.2.1 x), some (x = 0 ∨ x = 1))
        | _ => none) none
      | _ => none)
    | .long x :: .ref c :: q => (match a_sh[c]? with
      | some (0, ci) => cond (Nat.beq ci r.2.2.1) (match xh_ty r.2.2.1 r.2.2.2.1 with
        | .long => some ((pc + 3, lv, q, xh_ul h c r.2.2.2.1 x), none)
        | _ => none) none
      | _ => none)
    | _ => none)
  | .iaload => (match st with
    | .int i :: .ref c :: q => (match a_sh[c]? with
      | some (1, n) => some ((pc + 1, lv, .int (xg 0 h.2.1 c i.toNatClampNeg) :: q, h), some (xe_in i n = true))
      | _ => none)
    | _ => none)
  | .baload => (match st with
    | .int i :: .ref c :: q => (match a_sh[c]? with
      | some (2, n) => some ((pc + 1, lv, .int (xg 0 h.2.1 c i.toNatClampNeg) :: q, h), some (xe_in i n = true))
      | some (3, n) => some ((pc + 1, lv, .int (xg 0 h.2.1 c i.toNatClampNeg) :: q, h), some (xe_in i n = true))
      | _ => none)
    | _ => none)
  | .laload => (match st with
    | .int i :: .ref c :: q => (match a_sh[c]? with
      | some (4, n) => some ((pc + 1, lv, .long (xg 0 h.2.2.1 c i.toNatClampNeg) :: q, h), some (xe_in i n = true))
      | _ => none)
    | .int i :: .float u :: q => cond (Nat.beq u.toNat 1) (some ((pc + 1, lv, .long (xo_f i.toNatClampNeg) :: q, h), some (xe_in i 13 = true))) none
    | _ => none)
  | .getstatic _ => some ((pc + 3, lv, .float 1 :: st, h), none)
  | .ldiv => (match st with
    | .long y :: .long x :: q => some ((pc + 1, lv, .long (x / y) :: q, h), some (y ≠ 0))
    | _ => none)
  | .iastore => (match st with
    | .int x :: .int i :: .ref c :: q => (match a_sh[c]? with
      | some (1, n) => some ((pc + 1, lv, q, xh_ui h c i.toNatClampNeg x), some (xe_in i n = true))
      | _ => none)
    | _ => none)
  | .bastore => (match st with
    | .int x :: .int i :: .ref c :: q => (match a_sh[c]? with
      | some (3, n) => some ((pc + 1, lv, q, xh_ui h c i.toNatClampNeg (vp_nar .boolean x)), some (xe_in i n = true))
      | _ => none)
    | _ => none)
  | .lastore => (match st with
    | .long x :: .int i :: .ref c :: q => (match a_sh[c]? with
      | some (4, n) => some ((pc + 1, lv, q, xh_ul h c i.toNatClampNeg x), some (xe_in i n = true))
      | _ => none)
    | _ => none)
  | .arraylength => (match st with
    | .ref c :: q => (match a_sh[c]? with
      | some (k + 1, n) => cond (Nat.ble (k + 1) 5) (some ((pc + 1, lv, .int (Int32.ofNat n) :: q, h), none)) none
      | _ => none)
    | _ => none)
  | _ => none
def xa_a (o : Option Prop) : Prop := match o with
  | some P => P
  | none => True
set_option maxHeartbeats 4000000 in
theorem xa_h_ok {tb : aT} {nL d : Nat} {r : xr_R} {pc : Nat} {lv : List (Nat × Value)} {st : List Value} {h : xh_H} {o : xa_S} {P : Option Prop} (hq : a_rq tb h) (he : xa_h tb r pc lv st h = some (o, P)) (hP : xa_a P) : a_rq tb o.2.2.2 ∧ xe_2 none nL r d pc lv st h 0 0 = some (o.1, o.2.1, o.2.2.1, o.2.2.2, 0, 0) := by
  obtain ⟨i, len, ra, rb, rK, ri⟩ := r
  have lift : ∀ (o : xs_S), xe_1 nL (i, len, ra, rb, rK, ri) pc lv st h 0 0 = some o → xe_2 none nL (i, len, ra, rb, rK, ri) d pc lv st h 0 0 = some o := by
    intro o ho
    unfold xe_2
    rw [ho]
  unfold xa_h at he
  cases i
  case getfield idx =>
    dsimp only at he
    split at he
    · rename_i c q
      split at he
      · rename_i ci hs
        obtain ⟨g1, g2⟩ := xw_c he
        have hs2 := hq.2.1 c _ hs
        have base : ∀ v, xh_get h c (xh_ty ra rb) rb = v → xe_1 nL (.getfield idx, len, ra, rb, rK, ri) pc lv (.ref c :: q) h 0 0 = some (pc + 3, lv, v :: q, h, 0, 0) := by
          intro v hv
          unfold xe_1 xp_r
          try dsimp only
          rw [hs2]
          show (cond (Nat.beq ci ra) _ _) = _
          rw [g1, hv]
          rfl
        split at g2
        · rename_i hty
          cases g2
          exact ⟨hq, lift _ (base _ (by rw [hty]; rfl))⟩
        · rename_i hty
          cases g2
          exact ⟨hq, lift _ (base _ (by rw [hty]; rfl))⟩
        · rename_i hty
          cases g2
          exact ⟨hq, lift _ (base _ (by rw [hty]; rfl))⟩
        · rename_i x hty
          split at g2
          · rename_i t ht
            cases g2
            refine ⟨hq, lift _ (base _ ?_)⟩
            rw [hty]
            show va_rf (xg none h.2.2.2 c rb) = .ref t
            rw [hq.2.2 c rb ci t hs ht]
            rfl
          · cases g2
        · rename_i x hty
          split at g2
          · rename_i t ht
            cases g2
            refine ⟨hq, lift _ (base _ ?_)⟩
            rw [hty]
            show va_rf (xg none h.2.2.2 c rb) = .ref t
            rw [hq.2.2 c rb ci t hs ht]
            rfl
          · cases g2
        · cases g2
      · cases he
    · cases he
  case putfield idx =>
    dsimp only at he
    split at he
    · rename_i x c q
      split at he
      · rename_i ci hs
        obtain ⟨g1, g2⟩ := xw_c he
        have hs2 := hq.2.1 c _ hs
        have base : ∀ h2, xe_put h c (xh_ty ra rb) rb (.int x) = some h2 → xe_1 nL (.putfield idx, len, ra, rb, rK, ri) pc lv (.int x :: .ref c :: q) h 0 0 = some (pc + 3, lv, q, h2, 0, 0) := by
          intro v hv
          unfold xe_1 xp_vr
          try dsimp only
          rw [hs2]
          show (cond (Nat.beq ci ra) _ _) = _
          rw [g1, hv]
          rfl
        split at g2
        · rename_i hty
          cases g2
          exact ⟨hq, lift _ (base _ (by rw [hty]; rfl))⟩
        · rename_i hty
          cases g2
          have hP : x = 0 ∨ x = 1 := hP
          refine ⟨hq, lift _ (base _ ?_)⟩
          rw [hty]
          rcases hP with rfl | rfl <;> rfl
        · cases g2
      · cases he
    · rename_i x c q
      split at he
      · rename_i ci hs
        obtain ⟨g1, g2⟩ := xw_c he
        have hs2 := hq.2.1 c _ hs
        split at g2
        · rename_i hty
          cases g2
          refine ⟨hq, lift _ ?_⟩
          unfold xe_1 xp_vr
          try dsimp only
          rw [hs2]
          show (cond (Nat.beq ci ra) _ _) = _
          rw [g1, hty]
          rfl
        · cases g2
      · cases he
    · cases he
  case iaload =>
    dsimp only at he
    split at he
    · rename_i i c q
      split at he
      · rename_i n hs
        cases he
        have hP : xe_in i n = true := hP
        refine ⟨hq, lift _ ?_⟩
        unfold xe_1 xp_ir
        try dsimp only
        rw [hq.2.1 c _ hs]
        show (cond (xe_in i n) _ _) = _
        rw [hP]
        rfl
      · cases he
    · cases he
  case baload =>
    dsimp only at he
    split at he
    · rename_i i c q
      split at he
      · rename_i n hs
        cases he
        have hP : xe_in i n = true := hP
        refine ⟨hq, lift _ ?_⟩
        unfold xe_1 xp_ir
        try dsimp only
        rw [hq.2.1 c _ hs]
        show (cond (xe_in i n) _ _) = _
        rw [hP]
        rfl
      · rename_i n hs
        cases he
        have hP : xe_in i n = true := hP
        refine ⟨hq, lift _ ?_⟩
        unfold xe_1 xp_ir
        try dsimp only
        rw [hq.2.1 c _ hs]
        show (cond (xe_in i n) _ _) = _
        rw [hP]
        rfl
      · cases he
    · cases he
  case laload =>
    dsimp only at he
    split at he
    · rename_i i c q
      split at he
      · rename_i n hs
        cases he
        have hP : xe_in i n = true := hP
        refine ⟨hq, lift _ ?_⟩
        unfold xe_1 xp_ir
        try dsimp only
        rw [hq.2.1 c _ hs]
        show (cond (xe_in i n) _ _) = _
        rw [hP]
        rfl
      · cases he
    · rename_i i u q
      obtain ⟨g1, g2⟩ := xw_c he
      cases g2
      have hP : xe_in i 13 = true := hP
      refine ⟨hq, ?_⟩
      unfold xe_2 xe_1 xe_o xp_ir
      try dsimp only
      rw [g1, hP]
      rfl
    · cases he
  case getstatic idx =>
    cases he
    exact ⟨hq, rfl⟩
  case ldiv =>
    dsimp only at he
    split at he
    · rename_i y x q
      cases he
      have hP : y ≠ 0 := hP
      refine ⟨hq, lift _ ?_⟩
      unfold xe_1 xp_ll
      try dsimp only
      rw [decide_eq_false hP]
      rfl
    · cases he
  case iastore =>
    dsimp only at he
    split at he
    · rename_i x i c q
      split at he
      · rename_i n hs
        cases he
        have hP : xe_in i n = true := hP
        refine ⟨hq, lift _ ?_⟩
        unfold xe_1 xp_iir
        try dsimp only
        rw [hq.2.1 c _ hs]
        show (cond (xe_in i n) _ _) = _
        rw [hP]
        rfl
      · cases he
    · cases he
  case bastore =>
    dsimp only at he
    split at he
    · rename_i x i c q
      split at he
      · rename_i n hs
        cases he
        have hP : xe_in i n = true := hP
        refine ⟨hq, lift _ ?_⟩
        unfold xe_1 xp_iir
        try dsimp only
        rw [hq.2.1 c _ hs]
        show (cond (xe_in i n) _ _) = _
        rw [hP]
        rfl
      · cases he
    · cases he
  case lastore =>
    dsimp only at he
    split at he
    · rename_i x i c q
      split at he
      · rename_i n hs
        cases he
        have hP : xe_in i n = true := hP
        refine ⟨hq, lift _ ?_⟩
        unfold xe_1 xp_lir
        try dsimp only
        rw [hq.2.1 c _ hs]
        show (cond (xe_in i n) _ _) = _
        rw [hP]
        rfl
      · cases he
    · cases he
  case arraylength =>
    dsimp only at he
    split at he
    · rename_i c q
      split at he
      · rename_i k n hs
        obtain ⟨g1, g2⟩ := xw_c he
        cases g2
        refine ⟨hq, lift _ ?_⟩
        unfold xe_1 xp_r
        try dsimp only
        rw [hq.2.1 c _ hs]
        show (cond (Nat.ble (k + 1) 5) _ _) = _
        rw [g1]
        rfl
      · cases he
    · cases he
  all_goals cases he
/-- a piece of code, along a path: where it comes to, and what that asks -/
def xa (tb : aT) (mid nL stop : Nat) : Nat → Bool → List Bool → Nat → List (Nat × Value) → List Value → xh_H → Option (xa_S × Prop)
  | 0, _, _, _, _, _, _ => none
  | f + 1, b, p, pc, lv, st, h => cond (b && Nat.beq pc stop) (some ((pc, lv, st, h), True)) (match xC mid pc with
    | none => none
    | some r => cond (xe_isr r.1) none (match r.1 with
      | .ifCond k _ => (match st with
        | .int x :: q => (match p with
          | t :: p => (match xa tb mid nL stop f true p (cond t r.2.2.1 (pc + 3)) lv q h with
            | some (o, P) => some (o, xe_c k x 0 = t ∧ P)
            | none => none)
          | [] => none)
        | _ => none)
      | .if_icmp k _ => (match st with
        | .int y :: .int x :: q => (match p with
          | t :: p => (match xa tb mid nL stop f true p (cond t r.2.2.1 (pc + 3)) lv q h with
            | some (o, P) => some (o, xe_c k x y = t ∧ P)
            | none => none)
          | [] => none)
        | _ => none)
      | _ => cond (xa_p r.1) (match xe_1 nL r pc lv st h 0 0 with
        | some (pc1, lv1, st1, _) => xa tb mid nL stop f true p pc1 lv1 st1 h
        | none => none) (match xa_h tb r pc lv st h with
        | some ((pc1, lv1, st1, h1), none) => xa tb mid nL stop f true p pc1 lv1 st1 h1
        | some ((pc1, lv1, st1, h1), some Q) => (match xa tb mid nL stop f true p pc1 lv1 st1 h1 with
          | some (o, P) => some (o, Q ∧ P)
          | none => none)
        | none => none)))
set_option maxHeartbeats 4000000 in
theorem xa_ok {tb : aT} {mid d stop : Nat} {mi : xm_M} : ∀ (f : Nat) (b : Bool) (p : List Bool) (pc : Nat) (lv : List (Nat × Value)) (st : List Value) (h : xh_H) (o : xa_S) (P : Prop), xa tb mid mi.2.2.2.1 stop f b p pc lv st h = some (o, P) → a_rq tb h → P → a_rq tb o.2.2.2 ∧ ∀ R, xR none d mid mi (o.1, o.2.1, o.2.2.1, o.2.2.2, 0, 0) R → xR none d mid mi (pc, lv, st, h, 0, 0) R := by
  intro f
  induction f with
  | zero => intro b p pc lv st h o P he; cases he
  | succ f ih =>
    intro b p pc lv st h o P he hq hP
    unfold xa at he
    cases hb : (b && Nat.beq pc stop) with
    | true =>
      rw [hb] at he
      cases he
      exact ⟨hq, fun R k => k⟩
    | false =>
      rw [hb] at he
      dsimp only [cond_false] at he
      cases hr : xC mid pc with
      | none => rw [hr] at he; cases he
      | some r =>
        rw [hr] at he
        dsimp only at he
        cases hi : xe_isr r.1 with
        | true => rw [hi] at he; cases he
        | false =>
          rw [hi] at he
          dsimp only [cond_false] at he
          split at he
          · rename_i k off hk
            split at he
            · rename_i x q
              split at he
              · rename_i t p
                split at he
                · rename_i o1 P1 h1
                  cases he
                  obtain ⟨hc, hP⟩ := hP
                  obtain ⟨k1, k2⟩ := ih _ _ _ _ _ _ _ _ h1 hq hP
                  refine ⟨k1, fun R kk => xR_step hr hi ?_ (k2 R kk)⟩
                  obtain ⟨i, len, ra, rb, rK, ri⟩ := r
                  dsimp only at hk
                  subst hk
                  unfold xe_2 xe_1 xp_i
                  try dsimp only
                  rw [hc]
                  cases t <;> rfl
                · cases he
              · cases he
            · cases he
          · rename_i k off hk
            split at he
            · rename_i y x q
              split at he
              · rename_i t p
                split at he
                · rename_i o1 P1 h1
                  cases he
                  obtain ⟨hc, hP⟩ := hP
                  obtain ⟨k1, k2⟩ := ih _ _ _ _ _ _ _ _ h1 hq hP
                  refine ⟨k1, fun R kk => xR_step hr hi ?_ (k2 R kk)⟩
                  obtain ⟨i, len, ra, rb, rK, ri⟩ := r
                  dsimp only at hk
                  subst hk
                  unfold xe_2 xe_1 xp_ii
                  try dsimp only
                  rw [hc]
                  cases t <;> rfl
                · cases he
              · cases he
            · cases he
          · cases hp : xa_p r.1 with
            | true =>
              rw [hp] at he
              dsimp only [cond_true] at he
              split at he
              · rename_i pc1 lv1 st1 x hx
                obtain ⟨h1, c1, s1⟩ := x
                obtain ⟨e1, e2, e3⟩ := xe_1_pure hx hp
                subst e1
                subst e2
                subst e3
                obtain ⟨k1, k2⟩ := ih _ _ _ _ _ _ _ _ he hq hP
                refine ⟨k1, fun R kk => xR_step hr hi ?_ (k2 R kk)⟩
                unfold xe_2
                rw [hx]
              · cases he
            | false =>
              rw [hp] at he
              dsimp only [cond_false] at he
              split at he
              · rename_i pc1 lv1 st1 h1 hx
                obtain ⟨g1, g2⟩ := xa_h_ok (nL := mi.2.2.2.1) (d := d) hq hx trivial
                obtain ⟨k1, k2⟩ := ih _ _ _ _ _ _ _ _ he g1 hP
                exact ⟨k1, fun R kk => xR_step hr hi g2 (k2 R kk)⟩
              · rename_i pc1 lv1 st1 h1 Q hx
                split at he
                · rename_i o1 P1 h2
                  cases he
                  obtain ⟨hQ, hP⟩ := hP
                  obtain ⟨g1, g2⟩ := xa_h_ok (nL := mi.2.2.2.1) (d := d) hq hx hQ
                  obtain ⟨k1, k2⟩ := ih _ _ _ _ _ _ _ _ h2 g1 hP
                  exact ⟨k1, fun R kk => xR_step hr hi g2 (k2 R kk)⟩
                · cases he
              · cases he
variable {tb : aT} {mid d : Nat} {mi : xm_M} {pc : Nat} {lv : List (Nat × Value)} {st : List Value} {h : xh_H} {R : Option Value × xh_H × Nat × Nat}
/-- walk along a path -/
theorem xa_go (stop : Nat) (p : List Bool) (f : Nat) {o : xa_S} {P : Prop} (hq : a_rq tb h) (he : xa tb mid mi.2.2.2.1 stop f false p pc lv st h = some (o, P)) (hP : P) (k : a_rq tb o.2.2.2 → xR none d mid mi (o.1, o.2.1, o.2.2.1, o.2.2.2, 0, 0) R) : xR none d mid mi (pc, lv, st, h, 0, 0) R := by
  obtain ⟨k1, k2⟩ := xa_ok (d := d) f false p pc lv st h o P he hq hP
  exact k2 R (k k1)
/-- the same, to a state that is told -/
theorem xa_to (pc1 : Nat) (lv1 : List (Nat × Value)) (st1 : List Value) (h1 : xh_H) (p : List Bool) (f : Nat) {P : Prop} (hq : a_rq tb h) (he : xa tb mid mi.2.2.2.1 pc1 f false p pc lv st h = some ((pc1, lv1, st1, h1), P)) (hP : P) (k : a_rq tb h1 → xR none d mid mi (pc1, lv1, st1, h1, 0, 0) R) : xR none d mid mi (pc, lv, st, h, 0, 0) R := by
  obtain ⟨k1, k2⟩ := xa_ok (d := d) f false p pc lv st h _ P he hq hP
  exact k2 R (k k1)
/-- a call's arguments, by the table's shapes -/
def xa_c (r : xr_R) (st : List Value) : Option (xm_M × List Value × List Value) := match xM r.2.2.1 with
  | none => none
  | some mi => (match r.1 with
    | .invokestatic _ => cond (Nat.beq r.2.2.2.1 0 && (Nat.beq mi.2.2.2.2.2.1 1 && (Nat.beq (st.take mi.2.2.2.2.2.2.1).length mi.2.2.2.2.2.2.1 && (Nat.ble (xm_cat (st.drop mi.2.2.2.2.2.2.1)) 8 && Nat.ble (xm_cat (st.take mi.2.2.2.2.2.2.1).reverse) mi.2.2.2.1)))) (some (mi, (st.take mi.2.2.2.2.2.2.1).reverse, st.drop mi.2.2.2.2.2.2.1)) none
    | .invokevirtual _ => (match st.drop mi.2.2.2.2.2.2.1 with
      | .ref b :: q => (match a_sh[b]? with
        | some (0, ci) => cond (Nat.beq r.2.2.2.1 0 && (Nat.beq ci mi.2.2.2.2.2.2.2 && (Nat.beq mi.2.2.2.2.2.1 0 && (Nat.beq (st.take mi.2.2.2.2.2.2.1).length mi.2.2.2.2.2.2.1 && (Nat.ble (xm_cat q) 8 && Nat.ble (xm_cat (.ref b :: (st.take mi.2.2.2.2.2.2.1).reverse)) mi.2.2.2.1))))) (some (mi, .ref b :: (st.take mi.2.2.2.2.2.2.1).reverse, q)) none
        | _ => none)
      | _ => none)
    | _ => none)
theorem xa_c_ok {r : xr_R} {mj : xm_M} {As q : List Value} {nL : Nat} (hq : a_rq tb h) (he : xa_c r st = some (mj, As, q)) : xe_cl xM r st h = some (mj, As, q) ∧ xe_2 none nL r (d + 1) pc lv st h 0 0 = none ∧ xe_isr r.1 = false ∧ xM r.2.2.1 = some mj := by
  unfold xa_c at he
  cases hM : xM r.2.2.1 with
  | none => rw [hM] at he; cases he
  | some mi =>
    rw [hM] at he
    dsimp only at he
    obtain ⟨i, len, ra, rb, rK, ri⟩ := r
    dsimp only at he hM
    split at he
    · rename_i idx
      obtain ⟨c0, ce⟩ := xw_c he
      have ce2 := ce
      cases ce
      have hb := xw_beq (xw_bb c0).1
      subst hb
      refine ⟨?_, rfl, rfl, rfl⟩
      unfold xe_cl
      try dsimp only
      rw [hM]
      try dsimp only
      rw [c0]
      rfl
    · rename_i idx
      split at he
      · rename_i b q2 hdr
        split at he
        · rename_i ci hs
          obtain ⟨c0, ce⟩ := xw_c he
          cases ce
          obtain ⟨c1, c2⟩ := xw_bb c0
          have hb := xw_beq c1
          subst hb
          refine ⟨?_, rfl, rfl, rfl⟩
          unfold xe_cl
          try dsimp only
          rw [hM]
          try dsimp only
          rw [hdr]
          try dsimp only
          rw [hq.2.1 b _ hs]
          show (cond (Nat.beq ci mj.2.2.2.2.2.2.2 && (Nat.beq mj.2.2.2.2.2.1 0 && (Nat.beq (st.take mj.2.2.2.2.2.2.1).length mj.2.2.2.2.2.2.1 && (Nat.ble (xm_cat q) 8 && Nat.ble (xm_cat (.ref b :: (st.take mj.2.2.2.2.2.2.1).reverse)) mj.2.2.2.1)))) (some (mj, .ref b :: (st.take mj.2.2.2.2.2.2.1).reverse, q)) none) = _
          rw [c2]
          rfl
        · cases he
      · cases he
    · cases he
/-- a call by its contract -/
theorem xa_by {C : aC} {r : xr_R} {mj : xm_M} {As q : List Value} {σ : aN → Int} (hC : a_spec tb C) (hq : a_rq tb h) (hi : a_inv tb h) (hr : xC mid pc = some r) (hid : C.1 = r.2.2.1) (he : xa_c r st = some (mj, As, q)) (hd : C.2.1 ≤ d) (ha : a_st σ h.1.length C.2.2.1 As) (hp : a_fp C.2.2.2.2.2 h)
    (k : ∀ v h', a_post tb h C.2.2.2.2.1 (a_sg As) C.2.2.2.1 v h' → xR none (d + 1) mid mi (pc + 3, lv, v.toList ++ q, h', 0, 0) R) : xR none (d + 1) mid mi (pc, lv, st, h, 0, 0) R := by
  obtain ⟨e1, e2, e3, e4⟩ := xa_c_ok (d := d) (pc := pc) (lv := lv) (nL := mi.2.2.2.1) hq he
  obtain ⟨v, h', r1, p1⟩ := hC d mj As h σ hd (by rw [hid]; exact e4) hi hq.1 ha hp
  refine xR_call (v := v) (h' := h') (mc := 0) (ms := 0) hr e3 e2 e1 ?_ (k v h' p1)
  rw [← hid]
  exact r1
/-- a call by its run -/
theorem xa_run {r : xr_R} {mj : xm_M} {As q : List Value} {v : Option Value} {h' : xh_H} (hq : a_rq tb h) (hr : xC mid pc = some r) (he : xa_c r st = some (mj, As, q)) (hm : xR none d r.2.2.1 mj (0, lv_args 0 As, [], h, 0, 0) (v, h', 0, 0)) (k : xR none (d + 1) mid mi (pc + 3, lv, v.toList ++ q, h', 0, 0) R) : xR none (d + 1) mid mi (pc, lv, st, h, 0, 0) R := by
  obtain ⟨e1, e2, e3, e4⟩ := xa_c_ok (d := d) (pc := pc) (lv := lv) (nL := mi.2.2.2.1) hq he
  exact xR_call (v := v) (h' := h') (mc := 0) (ms := 0) hr e3 e2 e1 hm k
end XHX
end
section
section XB2
theorem a_fp0 {h : xh_H} : a_fp [] h := fun _ hq => nomatch hq
def bc_u (x n : Int32) : Int32 := (x.toUInt32 >>> (n.toUInt32 &&& Int32.toUInt32 31)).toInt32
def bc_1 (x : Int32) : Int32 := x - (bc_u x 1 &&& 1431655765)
def bc_2 (x : Int32) : Int32 := (x &&& 858993459) + (bc_u x 2 &&& 858993459)
def bc_3 (x : Int32) : Int32 := (x + bc_u x 4) &&& 252645135
def bc_4 (x : Int32) : Int32 := x + bc_u x 8
def bc_5 (x : Int32) : Int32 := x + bc_u x 16
def bc (x : Int32) : Int32 := bc_5 (bc_4 (bc_3 (bc_2 (bc_1 x)))) &&& 63
/-- Integer.bitCount of a set -/
def aC_bit : aC := (xi_J6_bitCount_0f7a4, 0, [(0, 0, 4095, none, [], [])], [(some (0, 0, 12, none, [], []), [])], [], [])
/-- how many are in a set -/
def pcr (s : Nat) : Nat → Nat
  | 0 => 0
  | j + 1 => pcr s j + (s.testBit j).toNat
theorem pcr_le (s : Nat) : ∀ j, pcr s j ≤ j := by
  intro j
  induction j with
  | zero => exact Nat.le_refl _
  | succ j ih =>
    show pcr s j + (s.testBit j).toNat ≤ j + 1
    have : (s.testBit j).toNat ≤ 1 := by cases s.testBit j <;> decide
    omega
def pcq (s : Nat) : Nat → Nat
  | 0 => 0
  | j + 1 => Nat.add (pcq s j) (Nat.mod (Nat.div s (Nat.pow 2 j)) 2)
theorem pcq_e (s : Nat) : ∀ j, pcq s j = pcr s j := by
  intro j
  induction j with
  | zero => rfl
  | succ j ih =>
    show pcq s j + s / 2 ^ j % 2 = pcr s j + (s.testBit j).toNat
    rw [ih, Nat.toNat_testBit]
theorem bc_pq : ((List.range 4096).all fun k => Nat.beq (bc (nI k)).toUInt32.toNat (pcq k 12)) = true := by decide +kernel
theorem bc_at {k : Nat} (hk : k ∈ List.range 4096) : bc (nI k) = nI (pcr k 12) := by
  have h := Nat.eq_of_beq_eq_true (List.all_eq_true.mp bc_pq k hk)
  rw [pcq_e] at h
  have e : bc (nI k) = ⟨UInt32.ofNat (bc (nI k)).toUInt32.toNat⟩ := by rw [UInt32.ofNat_toNat]
  rw [e, h]
  rfl
theorem bc_pc : ((List.range 4096).all fun k => decide (bc (nI k) = nI (pcr k 12))) = true := List.all_eq_true.mpr (fun _ hk => decide_eq_true (bc_at hk))
theorem bc_b : ((List.range 4096).all fun k => decide (0 ≤ (bc (nI k)).toInt) && decide ((bc (nI k)).toInt ≤ 12)) = true := List.all_eq_true.mpr (fun k hk => by
  have h := pcr_le k 12
  have e := nI_toInt (n := pcr k 12) (by omega)
  rw [bc_at hk, e, Bool.and_eq_true]
  exact ⟨decide_eq_true (by omega), decide_eq_true (by omega)⟩)
set_option maxRecDepth 100000 in
set_option maxHeartbeats 4000000 in
theorem bc_run (d : Nat) (x : Int32) (h : xh_H) : xR none d xi_J6_bitCount_0f7a4 xmi_J6_bitCount_0f7a4 (0, [(0, .int x)], [], h, 0, 0) (some (.int (bc x)), h, 0, 0) := by
  refine xR_u (stop := 10) 20 d _ _ rfl ?_
  change xR none d xi_J6_bitCount_0f7a4 xmi_J6_bitCount_0f7a4 (10, [(0, .int (bc_1 x))], [], h, 0, 0) _
  refine xR_u (stop := 24) 20 d _ _ rfl ?_
  change xR none d xi_J6_bitCount_0f7a4 xmi_J6_bitCount_0f7a4 (24, [(0, .int (bc_2 (bc_1 x)))], [], h, 0, 0) _
  refine xR_u (stop := 34) 20 d _ _ rfl ?_
  change xR none d xi_J6_bitCount_0f7a4 xmi_J6_bitCount_0f7a4 (34, [(0, .int (bc_3 (bc_2 (bc_1 x))))], [], h, 0, 0) _
  refine xR_u (stop := 41) 20 d _ _ rfl ?_
  change xR none d xi_J6_bitCount_0f7a4 xmi_J6_bitCount_0f7a4 (41, [(0, .int (bc_4 (bc_3 (bc_2 (bc_1 x)))))], [], h, 0, 0) _
  refine xR_u (stop := 48) 20 d _ _ rfl ?_
  change xR none d xi_J6_bitCount_0f7a4 xmi_J6_bitCount_0f7a4 (48, [(0, .int (bc_5 (bc_4 (bc_3 (bc_2 (bc_1 x))))))], [], h, 0, 0) _
  exact ⟨10, rfl⟩
theorem as_bit {tb : aT} : a_spec tb aC_bit := by
  intro d mi vs h σ _ hM hi hn ha _
  cases hM
  match vs, ha with
  | [v], ha =>
    obtain ⟨⟨x, rfl, h1, h2, -⟩, -⟩ := ha
    have h1 : (0 : Int) ≤ x.toInt := h1
    have h2 : x.toInt ≤ 4095 := h2
    refine ⟨some (.int (bc x)), h, bc_run d x h, hi, rfl, ⟨_, List.mem_singleton.mpr rfl, ⟨_, rfl, ?_⟩, a_fp0⟩, fun _ _ _ _ => rfl⟩
    obtain ⟨e, -⟩ := a_nIx (y := x) h1
    have g := List.all_eq_true.mp bc_b x.toInt.toNat (List.mem_range.mpr (by omega))
    obtain ⟨g1, g2⟩ := xw_bb g
    rw [← e] at g1 g2
    exact a_vi rfl (a_I_ok (of_decide_eq_true g1) (of_decide_eq_true g2))
end XB2
end
section
section XB3
/-- CarryHouse.commonDivisor: a hundred steps of Euclid's at most -/
def aC_gcd : aC := (xi_X9_commonDivisor, 0, [(1, -9223372036854775808, 9223372036854775807, none, [], []), (1, -9223372036854775808, 9223372036854775807, none, [], [])], [(some (1, -9223372036854775808, 9223372036854775807, none, [], []), [])], [], [])
theorem gc_ne {y : Int64} (z : xe_c .eq (lg_cmp y 0) 0 = false) : decide (y = 0) = false := by
  rw [decide_eq_false_iff_not]
  intro e
  subst e
  revert z
  decide
set_option maxRecDepth 100000 in
set_option maxHeartbeats 4000000 in
theorem gc_turn {d : Nat} {h : xh_H} {i : Nat} {x y : Int64} {R : List (Nat × Value)} (hR : ∃ a b, R = [(0, .long a), (2, .long b)] ∨ ∃ c, R = [(9, .long c), (0, .long a), (2, .long b)]) (hi : i < 100) (k0 : ∃ w, xR none d xi_X9_commonDivisor xmi_X9_commonDivisor (44, [(8, .int (nI i)), (6, .long y), (4, .long x)] ++ R, [], h, 0, 0) (some (.long w), h, 0, 0)) (k1 : ∀ z c a b, ∃ w, xR none d xi_X9_commonDivisor xmi_X9_commonDivisor (9, [(8, .int (nI (i + 1))), (6, .long z), (4, .long y)] ++ [(9, .long c), (0, .long a), (2, .long b)], [], h, 0, 0) (some (.long w), h, 0, 0)) : ∃ w, xR none d xi_X9_commonDivisor xmi_X9_commonDivisor (9, [(8, .int (nI i)), (6, .long y), (4, .long x)] ++ R, [], h, 0, 0) (some (.long w), h, 0, 0) := by
  by_cases hy : y = 0
  · obtain ⟨w, k0⟩ := k0
    refine ⟨w, ?_⟩
    obtain ⟨a, b, rfl | ⟨c, rfl⟩⟩ := hR
    all_goals
      refine xR_u (stop := 13) 10 d _ _ rfl ?_
      refine xR_ic (x := nI i) (y := (100 : Int32)) rfl (fun _ => k0) (fun _ => ?_)
      refine xR_u (stop := 20) 10 d _ _ rfl ?_
      refine xR_if (x := lg_cmp y 0) rfl (fun _ => k0) (fun z => ?_)
      have := of_decide_eq_false (gc_ne z)
      exact absurd hy this
  · obtain ⟨a, b, hR⟩ := hR
    obtain ⟨w0, k0⟩ := k0
    by_cases hc : lg_cmp y 0 = 0
    · refine ⟨w0, ?_⟩
      rcases hR with rfl | ⟨c, rfl⟩
      all_goals
        refine xR_u (stop := 13) 10 d _ _ rfl ?_
        refine xR_ic (x := nI i) (y := (100 : Int32)) rfl (fun _ => k0) (fun _ => ?_)
        refine xR_u (stop := 20) 10 d _ _ rfl ?_
        refine xR_if (x := lg_cmp y 0) rfl (fun _ => k0) (fun z => ?_)
        simp [xe_c, hc] at z
    · obtain ⟨w, k1⟩ := k1 (x - x / y * y) (x - x / y * y) a b
      refine ⟨w, ?_⟩
      have hz : ¬ (100 : Int32) ≤ nI i := nI_ge (a := i) (b := 100) hi (by decide)
      have hd : decide (y = 0) = false := decide_eq_false hy
      rcases hR with rfl | ⟨c, rfl⟩
      all_goals
        refine xR_u (stop := 13) 10 d _ _ rfl ?_
        refine xR_ic (x := nI i) (y := (100 : Int32)) rfl (fun z => absurd (of_decide_eq_true z) hz) (fun _ => ?_)
        refine xR_u (stop := 20) 10 d _ _ rfl ?_
        refine xR_if (x := lg_cmp y 0) rfl (fun z => absurd (of_decide_eq_true z) hc) (fun _ => ?_)
        refine xR_u (stop := 27) 10 d _ _ rfl ?_
        refine xR_step (o1 := (28, _, .long (x - x / y * y) :: [], h, 0, 0)) rfl rfl (by
          unfold xe_2 xe_1 xp_ll
          dsimp only
          rw [hd]
          rfl) ?_
        refine xR_u (stop := 41) 10 d _ _ rfl ?_
        refine xR_u (stop := 9) 10 d _ _ rfl ?_
        have e : nI (i + 1) = nI i + Int32.ofInt 1 := (nI_1 i).symm
        rw [e] at k1
        exact k1
set_option maxRecDepth 100000 in
set_option maxHeartbeats 4000000 in
theorem gc_end {d : Nat} {h : xh_H} {i : Nat} {x y : Int64} {R : List (Nat × Value)} (hR : ∃ a b, R = [(0, .long a), (2, .long b)] ∨ ∃ c, R = [(9, .long c), (0, .long a), (2, .long b)]) : ∃ w, xR none d xi_X9_commonDivisor xmi_X9_commonDivisor (44, [(8, .int (nI i)), (6, .long y), (4, .long x)] ++ R, [], h, 0, 0) (some (.long w), h, 0, 0) := by
  obtain ⟨a, b, rfl | ⟨c, rfl⟩⟩ := hR
  · exact ⟨x, 5, rfl⟩
  · exact ⟨x, 5, rfl⟩
set_option maxRecDepth 100000 in
set_option maxHeartbeats 4000000 in
theorem gc_loop {d : Nat} {h : xh_H} : ∀ (n i : Nat) (x y : Int64) (R : List (Nat × Value)), (∃ a b, R = [(0, .long a), (2, .long b)] ∨ ∃ c, R = [(9, .long c), (0, .long a), (2, .long b)]) → i + n = 100 → ∃ w, xR none d xi_X9_commonDivisor xmi_X9_commonDivisor (9, [(8, .int (nI i)), (6, .long y), (4, .long x)] ++ R, [], h, 0, 0) (some (.long w), h, 0, 0) := by
  intro n
  induction n with
  | zero =>
    intro i x y R hR hi
    have e : i = 100 := by omega
    subst e
    obtain ⟨w, k0⟩ := gc_end (d := d) (h := h) (i := 100) (x := x) (y := y) hR
    refine ⟨w, ?_⟩
    obtain ⟨a, b, rfl | ⟨c, rfl⟩⟩ := hR
    all_goals
      refine xR_u (stop := 13) 10 d _ _ rfl ?_
      refine xR_ic (x := nI 100) (y := (100 : Int32)) rfl (fun _ => k0) (fun z => ?_)
      exact absurd z (by decide)
  | succ n ih =>
    intro i x y R hR hi
    exact gc_turn hR (by omega) (gc_end hR) (fun z c a b => ih (i + 1) y z _ ⟨a, b, Or.inr ⟨c, rfl⟩⟩ (by omega))
set_option maxRecDepth 100000 in
theorem as_gcd {tb : aT} : a_spec tb aC_gcd := by
  intro d mi vs h σ _ hM hi hn ha _
  cases hM
  match vs, ha with
  | [v1, v2], ha =>
    obtain ⟨⟨x, rfl, _⟩, ⟨y, rfl, _⟩, -⟩ := ha
    obtain ⟨w, k⟩ := gc_loop (d := d) (h := h) 100 0 x y [(0, .long x), (2, .long y)] ⟨x, y, Or.inl rfl⟩ rfl
    refine ⟨some (.long w), h, ?_, hi, rfl, ⟨_, List.mem_singleton.mpr rfl, ⟨_, rfl, a_lt_ok w⟩, a_fp0⟩, fun _ _ _ _ => rfl⟩
    refine xR_u (stop := 9) 10 d _ _ rfl ?_
    exact k
end XB3
end
section
section XB4
theorem rem_t (x y : Int64) : (x - x / y * y).toInt = x.toInt.tmod y.toInt := by
  rw [Int64.toInt_sub, Int64.toInt_mul, Int64.toInt_div]
  have e : x.toInt - x.toInt.tdiv y.toInt * y.toInt = (x % y).toInt := by rw [Int64.toInt_mod, Int.tmod_def, Int.mul_comm]
  simp only [Int.bmod_mul_bmod, Int.sub_bmod_bmod]
  rw [e, ← Int64.toInt_mod]
  exact Int64.toInt_bmod _
theorem rem_lt {x y : Int64} (hy : ¬ y = 0) : (x - x / y * y).toInt.natAbs < y.toInt.natAbs := by
  rw [rem_t, Int.natAbs_tmod]
  have h : y.toInt ≠ 0 := fun e => hy (Int64.toInt_inj.mp e)
  exact Nat.mod_lt _ (by omega)
def le_R (a b : Int64) (R : List (Nat × Value)) : Prop := R = [(0, .ref 39), (1, .long a), (3, .long b)] ∨ ∃ c, R = [(9, .long c), (0, .ref 39), (1, .long a), (3, .long b)]
theorem lc_ne {y : Int64} (z : xe_c .eq (lg_cmp y 0) 0 = false) : ¬ y = 0 := of_decide_eq_false (gc_ne z)
theorem lc_eq {y : Int64} (z : xe_c .eq (lg_cmp y 0) 0 = true) : lg_cmp y 0 = 0 := of_decide_eq_true z
set_option maxRecDepth 100000 in
set_option maxHeartbeats 4000000 in
theorem le_loop {d : Nat} {h : xh_H} {a b : Int64} {P : Option Value × xh_H × Nat × Nat → Prop} (kk : ∀ x y R, (¬ a = 0 → ¬ x = 0) → le_R a b R → ∃ o, P o ∧ xR none d xi_X10_lessen xmi_X10_lessen (31, [(7, .long y), (5, .long x)] ++ R, [], h, 0, 0) o) : ∀ (N : Nat) (x y : Int64) (R : List (Nat × Value)), y.toInt.natAbs < N → (¬ a = 0 → ¬ x = 0) → le_R a b R → ∃ o, P o ∧ xR none d xi_X10_lessen xmi_X10_lessen (6, [(7, .long y), (5, .long x)] ++ R, [], h, 0, 0) o := by
  intro N
  induction N with
  | zero => intro x y R hN; omega
  | succ N ih =>
    intro x y R hN hx hR
    cases hc : xe_c .eq (lg_cmp y 0) 0 with
    | true =>
      obtain ⟨o, ho, k0⟩ := kk x y R hx hR
      refine ⟨o, ho, ?_⟩
      rcases hR with rfl | ⟨c, rfl⟩
      all_goals
        refine xR_u (stop := 10) 10 d _ _ rfl ?_
        refine xR_if (x := lg_cmp y 0) rfl (fun _ => k0) (fun z => (by rw [hc] at z; cases z))
    | false =>
      have hy := lc_ne hc
      have hl := rem_lt (x := x) hy
      have hd : decide (y = 0) = false := decide_eq_false hy
      obtain ⟨o, ho, k1⟩ := ih y (x - x / y * y) [(9, .long (x - x / y * y)), (0, .ref 39), (1, .long a), (3, .long b)] (by omega) (fun _ => hy) (Or.inr ⟨_, rfl⟩)
      refine ⟨o, ho, ?_⟩
      rcases hR with rfl | ⟨c, rfl⟩
      all_goals
        refine xR_u (stop := 10) 10 d _ _ rfl ?_
        refine xR_if (x := lg_cmp y 0) rfl (fun z => (by rw [hc] at z; cases z)) (fun _ => ?_)
        refine xR_u (stop := 17) 10 d _ _ rfl ?_
        refine xR_step (o1 := (18, _, .long (x - x / y * y) :: [], h, 0, 0)) rfl rfl (by
          unfold xe_2 xe_1 xp_ll
          dsimp only
          rw [hd]
          rfl) ?_
        refine xR_u (stop := 6) 10 d _ _ rfl ?_
        exact k1
theorem lc_n1 {y : Int64} (z : xe_c .ne (lg_cmp y 0) 0 = true) : ¬ y = 0 := by
  intro e
  subst e
  revert z
  decide
set_option maxRecDepth 100000 in
set_option maxHeartbeats 4000000 in
theorem le_e1 {d : Nat} {h : xh_H} {a b x y : Int64} {R : List (Nat × Value)} (hs : h.1[39]? = some (0, 10)) (hx : ¬ a = 0 → ¬ x = 0) (hR : le_R a b R) : ∃ v, ∀ o, xR none d xi_X10_lessen xmi_X10_lessen (49, [(7, .long y), (5, .long x)] ++ R, [], xh_ul h 39 36 v, 0, 0) o → xR none d xi_X10_lessen xmi_X10_lessen (31, [(7, .long y), (5, .long x)] ++ R, [], h, 0, 0) o := by
  have hput : ∀ (lv : List (Nat × Value)) (v : Int64), xe_2 none xmi_X10_lessen.2.2.2.1 (.putfield 333, 3, 10, 36, (xC xi_X10_lessen 46).get!.2.2.2.2) d 46 lv [.long v, .ref 39] h 0 0 = some (49, lv, [], xh_ul h 39 36 v, 0, 0) := by
    intro lv v
    unfold xe_2 xe_1 xp_vr
    dsimp only
    rw [hs]
    rfl
  cases hc : xe_c .ne (lg_cmp a 0) 0 with
  | true =>
    have hd : decide (x = 0) = false := decide_eq_false (hx (lc_n1 hc))
    refine ⟨a / x, fun o k => ?_⟩
    rcases hR with rfl | ⟨c, rfl⟩
    all_goals
      refine xR_u (stop := 35) 10 d _ _ rfl ?_
      refine xR_if (x := lg_cmp a 0) rfl (fun _ => ?_) (fun z => (by rw [hc] at z; cases z))
      refine xR_u (stop := 45) 10 d _ _ rfl ?_
      refine xR_step (o1 := (46, _, [.long (a / x), .ref 39], h, 0, 0)) rfl rfl (by
        unfold xe_2 xe_1 xp_ll
        dsimp only
        rw [hd]
        rfl) ?_
      exact xR_step rfl rfl (hput _ _) k
  | false =>
    refine ⟨0, fun o k => ?_⟩
    rcases hR with rfl | ⟨c, rfl⟩
    all_goals
      refine xR_u (stop := 35) 10 d _ _ rfl ?_
      refine xR_if (x := lg_cmp a 0) rfl (fun z => (by rw [hc] at z; cases z)) (fun _ => ?_)
      refine xR_u (stop := 46) 10 d _ _ rfl ?_
      exact xR_step rfl rfl (hput _ _) k
set_option maxRecDepth 100000 in
set_option maxHeartbeats 4000000 in
theorem le_e2 {d : Nat} {h : xh_H} {a b x y : Int64} {R : List (Nat × Value)} (hs : h.1[39]? = some (0, 10)) (hx : ¬ a = 0 → ¬ x = 0) (hR : le_R a b R) : ∃ w, xR none d xi_X10_lessen xmi_X10_lessen (49, [(7, .long y), (5, .long x)] ++ R, [], h, 0, 0) (none, xh_ul h 39 37 w, 0, 0) := by
  have hput : ∀ (lv : List (Nat × Value)) (v : Int64), xe_2 none xmi_X10_lessen.2.2.2.1 (.putfield 336, 3, 10, 37, (xC xi_X10_lessen 64).get!.2.2.2.2) d 64 lv [.long v, .ref 39] h 0 0 = some (67, lv, [], xh_ul h 39 37 v, 0, 0) := by
    intro lv v
    unfold xe_2 xe_1 xp_vr
    dsimp only
    rw [hs]
    rfl
  cases hc : xe_c .ne (lg_cmp a 0) 0 with
  | true =>
    have hd : decide (x = 0) = false := decide_eq_false (hx (lc_n1 hc))
    refine ⟨b / x, ?_⟩
    rcases hR with rfl | ⟨c, rfl⟩
    all_goals
      refine xR_u (stop := 53) 10 d _ _ rfl ?_
      refine xR_if (x := lg_cmp a 0) rfl (fun _ => ?_) (fun z => (by rw [hc] at z; cases z))
      refine xR_u (stop := 63) 10 d _ _ rfl ?_
      refine xR_step (o1 := (64, _, [.long (b / x), .ref 39], h, 0, 0)) rfl rfl (by
        unfold xe_2 xe_1 xp_ll
        dsimp only
        rw [hd]
        rfl) ?_
      exact xR_step rfl rfl (hput _ _) ⟨2, rfl⟩
  | false =>
    refine ⟨1, ?_⟩
    rcases hR with rfl | ⟨c, rfl⟩
    all_goals
      refine xR_u (stop := 53) 10 d _ _ rfl ?_
      refine xR_if (x := lg_cmp a 0) rfl (fun z => (by rw [hc] at z; cases z)) (fun _ => ?_)
      refine xR_u (stop := 64) 10 d _ _ rfl ?_
      exact xR_step rfl rfl (hput _ _) ⟨2, rfl⟩
/-- CarryHouseModel.lessen -/
def aC_les : aC := (xi_X10_lessen, 0, [(2, 39, 0, none, [], []), (1, -9223372036854775808, 9223372036854775807, none, [], []), (1, -9223372036854775808, 9223372036854775807, none, [], [])], [(none, [])], [], [])
theorem le_top (v : Int64) : -9223372036854775808 ≤ v.toInt ∧ v.toInt ≤ 9223372036854775807 := by
  have h1 := v.le_toInt
  have h2 := v.toInt_lt
  omega
set_option maxRecDepth 100000 in
theorem as_les : a_spec a_tb aC_les := by
  intro d mi vs h σ _ hM hi hn ha _
  cases hM
  match vs, ha with
  | [v0, v1, v2], ha =>
    obtain ⟨⟨q, rfl, hq⟩, ⟨x, rfl, _⟩, ⟨y, rfl, _⟩, -⟩ := ha
    have eq : q = 39 := a_r_ob (t := 39) (by decide) hq
    subst eq
    have hs : h.1[39]? = some (0, 10) := a_sh_at hi hq (by decide)
    have ht : a_tg 39 = 39 := rfl
    have fin : ∀ v w, a_post a_tb h aC_les.2.2.2.2.1 (a_sg [.ref 39, .long x, .long y]) aC_les.2.2.2.1 none (xh_ul (xh_ul h 39 36 v) 39 37 w) := by
      intro v w
      have i1 : a_inv a_tb (xh_ul h 39 36 v) := a_inv_ul (s := (0, 10)) (lo := -9223372036854775808) (hi := 9223372036854775807) hi hs (by decide +kernel) (le_top v).1 (le_top v).2
      have i2 : a_inv a_tb (xh_ul (xh_ul h 39 36 v) 39 37 w) := a_inv_ul (s := (0, 10)) (lo := -9223372036854775808) (hi := 9223372036854775807) i1 hs (by decide +kernel) (le_top w).1 (le_top w).2
      exact ⟨i2, rfl, ⟨_, List.mem_singleton.mpr rfl, rfl, a_fp0⟩, fun _ _ _ _ => rfl⟩
    obtain ⟨o, ⟨v, w, rfl⟩, k⟩ := le_loop (d := d) (h := h) (a := x) (b := y) (P := fun o => ∃ v w, o = (none, xh_ul (xh_ul h 39 36 v) 39 37 w, 0, 0)) (fun x' y' R hx hR => by
      obtain ⟨v, k1⟩ := le_e1 (d := d) (y := y') hs hx hR
      obtain ⟨w, k2⟩ := le_e2 (d := d) (h := xh_ul h 39 36 v) (y := y') hs hx hR
      exact ⟨_, ⟨v, w, rfl⟩, k1 _ k2⟩) (y.toInt.natAbs + 1) x y [(0, .ref 39), (1, .long x), (3, .long y)] (Nat.lt_succ_self _) (fun z => z) (Or.inl rfl)
    refine ⟨none, _, ?_, fin v w⟩
    refine xR_u (stop := 6) 10 d _ _ rfl ?_
    exact k
end XB4
end
section
section XB5
/-- CarryHouseModel.sizeOf: twelve bits -/
def aC_siz : aC := (xi_X10_sizeOf, 0, [(0, -2147483648, 2147483647, none, [], [])], [(some (0, 0, 12, none, [], []), [])], [], [])
def aC_siz2 : aC := (xi_X10_sizeOf, 0, [(0, 1, 4095, none, [], [])], [(some (0, 1, 12, none, [], []), [])], [], [])
set_option maxRecDepth 100000 in
set_option maxHeartbeats 4000000 in
theorem sz_loop {d : Nat} {h : xh_H} {x : Int32} : ∀ (n i t : Nat), i + n = 12 → t ≤ i → ∃ w, w ≤ 12 ∧ (t ≤ w ∧ ∀ j, i ≤ j → j < 12 → (x >>> (nI j &&& 31)) &&& 1 = 1 → t < w) ∧ xR none d xi_X10_sizeOf xmi_X10_sizeOf (4, [(2, .int (nI i)), (1, .int (nI t)), (0, .int x)], [], h, 0, 0) (some (.int (nI w)), h, 0, 0) := by
  intro n
  induction n with
  | zero =>
    intro i t hi ht
    have e : i = 12 := by omega
    subst e
    exact ⟨t, ht, ⟨Nat.le_refl t, fun j h1 h2 _ => by omega⟩, 10, rfl⟩
  | succ n ih =>
    intro i t hi ht
    have hb := ar_and1 (x := x >>> (nI i &&& 31)) (y := 1) (by decide)
    have hb2 : ((x >>> (nI i &&& 31)) &&& 1).toInt ≤ 1 := hb.2
    obtain ⟨e, -⟩ := a_nIx hb.1
    have hz : ¬ (12 : Int32) ≤ nI i := nI_ge (a := i) (b := 12) (by omega) (by decide)
    obtain ⟨w, hw, ⟨hw1, hw2⟩, k⟩ := ih (i + 1) (t + ((x >>> (nI i &&& 31)) &&& 1).toInt.toNat) (by omega) (by omega)
    refine ⟨w, hw, ⟨by omega, fun j h1 h2 h3 => ?_⟩, ?_⟩
    · by_cases hj : j = i
      · subst hj
        rw [h3] at hw1
        have e1 : (1 : Int32).toInt.toNat = 1 := rfl
        omega
      · have := hw2 j (by omega) h2 h3
        omega
    have e1 : nI (t + ((x >>> (nI i &&& 31)) &&& 1).toInt.toNat) = nI t + ((x >>> (nI i &&& 31)) &&& 1) := by rw [← nI_add, ← e]
    have e2 : nI (i + 1) = nI i + Int32.ofInt 1 := (nI_1 i).symm
    rw [e1, e2] at k
    refine xR_u (stop := 7) 10 d _ _ rfl ?_
    refine xR_ic (x := nI i) (y := (12 : Int32)) rfl (fun z => absurd (of_decide_eq_true z) hz) (fun _ => ?_)
    refine xR_u (stop := 4) 12 d _ _ rfl ?_
    exact k
set_option maxRecDepth 100000 in
theorem as_siz {tb : aT} : a_spec tb aC_siz := by
  intro d mi vs h σ _ hM hi hn ha _
  cases hM
  match vs, ha with
  | [v], ha =>
    obtain ⟨⟨x, rfl, _⟩, -⟩ := ha
    obtain ⟨w, hw, -, k⟩ := sz_loop (d := d) (h := h) (x := x) 12 0 0 rfl (Nat.le_refl 0)
    have e := nI_toInt (n := w) (by omega)
    refine ⟨some (.int (nI w)), h, ?_, hi, rfl, ⟨_, List.mem_singleton.mpr rfl, ⟨_, rfl, a_vi rfl (a_I_ok (by omega) (by omega))⟩, a_fp0⟩, fun _ _ _ _ => rfl⟩
    refine xR_u (stop := 4) 10 d _ _ rfl ?_
    exact k
theorem sz_bit : ((List.range 4096).all fun k => Nat.beq k 0 || (List.range 12).any fun j => decide ((nI k >>> (nI j &&& 31)) &&& 1 = 1)) = true := by decide +kernel
set_option maxRecDepth 100000 in
theorem as_siz2 {tb : aT} : a_spec tb aC_siz2 := by
  intro d mi vs h σ _ hM hi hn ha _
  cases hM
  match vs, ha with
  | [v], ha =>
    obtain ⟨⟨x, rfl, h1, h2, -⟩, -⟩ := ha
    have h1 : (1 : Int) ≤ x.toInt := h1
    have h2 : x.toInt ≤ 4095 := h2
    obtain ⟨w, hw, ⟨-, hw2⟩, k⟩ := sz_loop (d := d) (h := h) (x := x) 12 0 0 rfl (Nat.le_refl 0)
    have e := nI_toInt (n := w) (by omega)
    obtain ⟨ex, -⟩ := a_nIx (y := x) (by omega)
    have g := List.all_eq_true.mp sz_bit x.toInt.toNat (List.mem_range.mpr (by omega))
    rw [Bool.or_eq_true] at g
    have hpos : 0 < w := by
      rcases g with g | g
      · have := Nat.eq_of_beq_eq_true g
        omega
      · obtain ⟨j, hj, g⟩ := List.any_eq_true.mp g
        have g := of_decide_eq_true g
        rw [← ex] at g
        exact hw2 j (Nat.zero_le j) (List.mem_range.mp hj) g
    refine ⟨some (.int (nI w)), h, ?_, hi, rfl, ⟨_, List.mem_singleton.mpr rfl, ⟨_, rfl, a_vi rfl (a_I_ok (by omega) (by omega))⟩, a_fp0⟩, fun _ _ _ _ => rfl⟩
    refine xR_u (stop := 4) 10 d _ _ rfl ?_
    exact k
end XB5
end
section
section XHS
/-! fewer locals do as well; runs with what holds at their ends -/
def xl_nd : List Nat → Bool
  | [] => true
  | i :: t => !(t.any (Nat.beq i)) && xl_nd t
def xl_pk : List Nat → List (Nat × Value) → Option (List (Nat × Value))
  | [], _ => some []
  | i :: t, lv => (match xl_get lv i with
    | some v => (match xl_pk t lv with
      | some l => some ((i, v) :: l)
      | none => none)
    | none => none)
def xl_sb (a b : List (Nat × Value)) : Prop := (a.map (fun q => q.1)).Nodup ∧ ∀ i v, xl_get a i = some v → xl_get b i = some v
theorem xl_nd_ok : ∀ {l : List Nat}, xl_nd l = true → l.Nodup := by
  intro l
  induction l with
  | nil => intro _; exact List.nodup_nil
  | cons i t ih =>
    intro h
    obtain ⟨h1, h2⟩ := xw_bb h
    rw [List.nodup_cons]
    refine ⟨fun hm => ?_, ih h2⟩
    have h3 : (t.any (Nat.beq i)) = true := List.any_eq_true.mpr ⟨i, hm, Nat.beq_refl i⟩
    rw [h3] at h1
    cases h1
theorem xl_pk_ok : ∀ {ks : List Nat} {lv l : List (Nat × Value)}, xl_pk ks lv = some l → l.map (fun q => q.1) = ks ∧ ∀ i v, xl_get l i = some v → xl_get lv i = some v := by
  intro ks
  induction ks with
  | nil => intro lv l h; cases h; exact ⟨rfl, fun i v h => by cases h⟩
  | cons k t ih =>
    intro lv l h
    unfold xl_pk at h
    split at h
    · rename_i v hv
      split at h
      · rename_i l2 hl
        cases h
        obtain ⟨g1, g2⟩ := ih hl
        refine ⟨by rw [List.map_cons, g1], fun i w hw => ?_⟩
        unfold xl_get at hw
        cases hb : Nat.beq k i with
        | true =>
          dsimp only at hw
          rw [hb] at hw
          cases hw
          rw [← Nat.eq_of_beq_eq_true hb]
          exact hv
        | false =>
          dsimp only at hw
          rw [hb] at hw
          exact g2 i w hw
      · cases h
    · cases h
theorem xl_mem_get {j : Nat} {v : Value} : ∀ {a : List (Nat × Value)}, (a.map (fun q => q.1)).Nodup → (j, v) ∈ a → xl_get a j = some v := by
  intro a
  induction a with
  | nil => intro _ h; cases h
  | cons q t ih =>
    intro hn h
    rw [List.map_cons, List.nodup_cons] at hn
    unfold xl_get
    rcases List.mem_cons.mp h with rfl | h
    · dsimp only
      rw [Nat.beq_refl]
      rfl
    · cases hb : Nat.beq q.1 j with
      | true =>
        exfalso
        have e := Nat.eq_of_beq_eq_true hb
        exact hn.1 (List.mem_map.mpr ⟨(j, v), h, e.symm⟩)
      | false => exact ih hn.2 h
theorem xl_get_fl {p : Nat × Value → Bool} {j : Nat} {v : Value} {a : List (Nat × Value)} (hn : (a.map (fun q => q.1)).Nodup) (h : xl_get (a.filter p) j = some v) : xl_get a j = some v ∧ p (j, v) = true := by
  obtain ⟨h1, h2⟩ := List.mem_filter.mp (xl_get_mem h)
  exact ⟨xl_mem_get hn h1, h2⟩
theorem xl_f_sb {p : Nat × Value → Bool} {i : Nat} {v : Value} {a b : List (Nat × Value)} (hp : ∀ w, p (i, w) = false) (h : xl_sb a b) : xl_sb ((i, v) :: a.filter p) ((i, v) :: b.filter p) := by
  obtain ⟨hn, hg⟩ := h
  refine ⟨?_, ?_⟩
  · rw [List.map_cons, List.nodup_cons]
    refine ⟨fun hm => ?_, (hn.sublist (List.Sublist.map _ List.filter_sublist))⟩
    obtain ⟨q, h1, h2⟩ := List.mem_map.mp hm
    have h3 := (List.mem_filter.mp h1).2
    have e : q = (i, q.2) := Prod.ext h2 rfl
    rw [e, hp] at h3
    cases h3
  · intro j w hw
    unfold xl_get at hw ⊢
    dsimp only at hw ⊢
    cases hb : Nat.beq i j with
    | true => rw [hb] at hw; exact hw
    | false =>
      rw [hb] at hw
      obtain ⟨g1, g2⟩ := xl_get_fl hn hw
      exact xl_get_f g2 (hg j w g1)
theorem xl_1_sb {i : Nat} {v : Value} {a b : List (Nat × Value)} (h : xl_sb a b) : xl_sb (xl_1 a i v) (xl_1 b i v) := xl_f_sb (fun w => by simp) h
theorem xl_2_sb {i : Nat} {v : Value} {a b : List (Nat × Value)} (h : xl_sb a b) : xl_sb (xl_2 a i v) (xl_2 b i v) := xl_f_sb (fun w => by simp) h
/-- what reads or writes the locals -/
def xa_l (i : Instr) : Bool := match i with
  | .iload_n _ => true
  | .iload _ => true
  | .lload_n _ => true
  | .lload _ => true
  | .aload_n _ => true
  | .aload _ => true
  | .istore_n _ => true
  | .istore _ => true
  | .astore_n _ => true
  | .astore _ => true
  | .lstore_n _ => true
  | .lstore _ => true
  | .iinc _ _ => true
  | _ => false
set_option maxHeartbeats 8000000 in
set_option maxRecDepth 100000 in
theorem xe_1_lv {nL : Nat} {r : xr_R} {pc : Nat} {lv lw : List (Nat × Value)} {st : List Value} {h : xh_H} {c s : Nat} (hl : xa_l r.1 = false) : xe_1 nL r pc lw st h c s = (xe_1 nL r pc lv st h c s).map (fun o => (o.1, lw, o.2.2)) := by
  obtain ⟨i, len, ra, rb, rK, ri⟩ := r
  cases i
  all_goals first
    | rfl
    | (cases hl; done)
    | (simp only [xe_1, xp_ii, xp_ll, xp_il, xp_i, xp_l, xp_r, xp_vr, xp_ir, xp_iir, xp_lir, xp_rir, Bool.cond_eq_ite]
       repeat' split
       all_goals first
         | rfl
         | (simp_all; done)
         | (simp_all; rfl))
theorem xe_1_sb {nL : Nat} {r : xr_R} {pc : Nat} {lv lw : List (Nat × Value)} {st : List Value} {h : xh_H} {c s : Nat} {pc' : Nat} {lv' : List (Nat × Value)} {st' : List Value} {h' : xh_H} {c' s' : Nat} (hs : xl_sb lv lw) (he : xe_1 nL r pc lv st h c s = some (pc', lv', st', h', c', s')) : ∃ lw', xe_1 nL r pc lw st h c s = some (pc', lw', st', h', c', s') ∧ xl_sb lv' lw' := by
  cases hl : xa_l r.1 with
  | false =>
    have e1 := xe_1_lv (nL := nL) (r := r) (pc := pc) (lv := lv) (lw := lv) (st := st) (h := h) (c := c) (s := s) hl
    have e2 := xe_1_lv (nL := nL) (r := r) (pc := pc) (lv := lv) (lw := lw) (st := st) (h := h) (c := c) (s := s) hl
    rw [he] at e1 e2
    have e1 := Option.some.inj e1
    injection e1 with _ e1
    injection e1 with e1 _
    refine ⟨lw, e2, ?_⟩
    rw [e1]
    exact hs
  | true =>
    obtain ⟨i, len, ra, rb, rK, ri⟩ := r
    have ld : ∀ k i len, xe_ld k i len pc lv st h c s = some (pc', lv', st', h', c', s') → ∃ lw', xe_ld k i len pc lw st h c s = some (pc', lw', st', h', c', s') ∧ xl_sb lv' lw' := by
      intro k i len h0
      obtain ⟨v, g1, g2, g3⟩ := xs_ld h0
      cases g3
      refine ⟨lw, ?_, hs⟩
      unfold xe_ld
      rw [hs.2 i v g1]
      dsimp only
      rw [g2]
      rfl
    have s1 : ∀ k i len, xe_st1 k i len pc nL lv st h c s = some (pc', lv', st', h', c', s') → ∃ lw', xe_st1 k i len pc nL lw st h c s = some (pc', lw', st', h', c', s') ∧ xl_sb lv' lw' := by
      intro k i len h0
      unfold xe_st1 at h0 ⊢
      split at h0
      · rename_i v q
        obtain ⟨g1, g2⟩ := xw_c h0
        cases g2
        refine ⟨xl_1 lw i v, ?_, xl_1_sb hs⟩
        rw [g1]
        rfl
      · cases h0
    have s2 : ∀ i len, xe_st2 i len pc nL lv st h c s = some (pc', lv', st', h', c', s') → ∃ lw', xe_st2 i len pc nL lw st h c s = some (pc', lw', st', h', c', s') ∧ xl_sb lv' lw' := by
      intro i len h0
      unfold xe_st2 at h0 ⊢
      split at h0
      · rename_i v q
        obtain ⟨g1, g2⟩ := xw_c h0
        cases g2
        refine ⟨xl_2 lw i v, ?_, xl_2_sb hs⟩
        rw [g1]
        rfl
      · cases h0
    cases i
    case iload_n k => exact ld _ _ _ he
    case iload k => exact ld _ _ _ he
    case lload_n k => exact ld _ _ _ he
    case lload k => exact ld _ _ _ he
    case aload_n k => exact ld _ _ _ he
    case aload k => exact ld _ _ _ he
    case istore_n k => exact s1 _ _ _ he
    case istore k => exact s1 _ _ _ he
    case astore_n k => exact s1 _ _ _ he
    case astore k => exact s1 _ _ _ he
    case lstore_n k => exact s2 _ _ he
    case lstore k => exact s2 _ _ he
    case iinc k n =>
      have he : (match xl_get lv k with
        | some (.int x) => cond (Nat.ble (k + 1) nL) (some (pc + 3, xl_1 lv k (.int (x + Int32.ofInt n)), st, h, c, s)) none
        | _ => none) = some (pc', lv', st', h', c', s') := he
      split at he
      · rename_i x hx
        obtain ⟨g1, g2⟩ := xw_c he
        cases g2
        refine ⟨xl_1 lw k (.int (x + Int32.ofInt n)), ?_, xl_1_sb hs⟩
        show (match xl_get lw k with
          | some (.int x) => cond (Nat.ble (k + 1) nL) (some (pc + 3, xl_1 lw k (.int (x + Int32.ofInt n)), st, h, c, s)) none
          | _ => none) = _
        rw [hs.2 k _ hx]
        dsimp only
        rw [g1]
        rfl
      · cases he
    all_goals (cases hl; done)
theorem xe_o_lv {scr : Option (Nat × (Nat → Int32))} {r : xr_R} {pc : Nat} {lv lw : List (Nat × Value)} {st : List Value} {h : xh_H} {c s : Nat} : xe_o scr r pc lw st h c s = (xe_o scr r pc lv st h c s).map (fun o => (o.1, lw, o.2.2)) := by
  unfold xe_o
  simp only [Bool.cond_eq_ite]
  repeat' split
  all_goals first
    | rfl
    | simp_all
theorem xe_oi_lv {r : xr_R} {pc d : Nat} {lv lw : List (Nat × Value)} {st : List Value} {h : xh_H} {c s : Nat} : xe_oi r pc d lw st h c s = (xe_oi r pc d lv st h c s).map (fun o => (o.1, lw, o.2.2)) := by
  unfold xe_oi
  simp only [Bool.cond_eq_ite]
  repeat' split
  all_goals first
    | rfl
    | simp_all
theorem xe_ol {f : List (Nat × Value) → Option xs_S} (hf : ∀ lv lw, f lw = (f lv).map (fun o => (o.1, lw, o.2.2))) {lv lw lv' : List (Nat × Value)} {pc' : Nat} {st' : List Value} {h' : xh_H} {c' s' : Nat} (hs : xl_sb lv lw) (he : f lv = some (pc', lv', st', h', c', s')) : ∃ lw', f lw = some (pc', lw', st', h', c', s') ∧ xl_sb lv' lw' := by
  have e1 := hf lv lv
  have e2 := hf lv lw
  rw [he] at e1 e2
  have e1 := Option.some.inj e1
  injection e1 with _ e1
  injection e1 with e1 _
  refine ⟨lw, e2, ?_⟩
  rw [e1]
  exact hs
theorem xe_ol_n {f : List (Nat × Value) → Option xs_S} (hf : ∀ lv lw, f lw = (f lv).map (fun o => (o.1, lw, o.2.2))) {lv lw : List (Nat × Value)} (he : f lv = none) : f lw = none := by
  rw [hf lv lw, he]
  rfl
theorem xe_2_sb {scr : Option (Nat × (Nat → Int32))} {nL d : Nat} {r : xr_R} {pc : Nat} {lv lw : List (Nat × Value)} {st : List Value} {h : xh_H} {c s : Nat} {pc' : Nat} {lv' : List (Nat × Value)} {st' : List Value} {h' : xh_H} {c' s' : Nat} (hs : xl_sb lv lw) (he : xe_2 scr nL r d pc lv st h c s = some (pc', lv', st', h', c', s')) : ∃ lw', xe_2 scr nL r d pc lw st h c s = some (pc', lw', st', h', c', s') ∧ xl_sb lv' lw' := by
  unfold xe_2 at he ⊢
  cases h1 : xe_1 nL r pc lv st h c s with
  | some o =>
    rw [h1] at he
    cases he
    obtain ⟨lw', g1, g2⟩ := xe_1_sb hs h1
    exact ⟨lw', by rw [g1], g2⟩
  | none =>
    rw [h1] at he
    dsimp only at he
    have fo := fun lv lw => xe_o_lv (scr := scr) (r := r) (pc := pc) (lv := lv) (lw := lw) (st := st) (h := h) (c := c) (s := s)
    have fi := fun lv lw => xe_oi_lv (r := r) (pc := pc) (d := d) (lv := lv) (lw := lw) (st := st) (h := h) (c := c) (s := s)
    have nl : xa_l r.1 = false := by
      cases h2 : xe_o scr r pc lv st h c s with
      | some o =>
        obtain ⟨i, len, ra, rb, rK, ri⟩ := r
        cases i <;> first | rfl | cases h2
      | none =>
        rw [h2] at he
        dsimp only at he
        obtain ⟨i, len, ra, rb, rK, ri⟩ := r
        cases i <;> first | rfl | cases he
    have n1 : xe_1 nL r pc lw st h c s = none := by
      rw [xe_1_lv (lv := lv) nl, h1]
      rfl
    rw [n1]
    dsimp only
    cases h2 : xe_o scr r pc lv st h c s with
    | some o =>
      rw [h2] at he
      cases he
      obtain ⟨lw', g1, g2⟩ := xe_ol fo hs h2
      exact ⟨lw', by rw [g1], g2⟩
    | none =>
      rw [h2] at he
      dsimp only at he
      rw [xe_ol_n fo (lw := lw) h2]
      exact xe_ol fi hs he
theorem xe_2_sn {scr : Option (Nat × (Nat → Int32))} {nL d : Nat} {r : xr_R} {pc : Nat} {lv lw : List (Nat × Value)} {st : List Value} {h : xh_H} {c s : Nat} (nl : xa_l r.1 = false) (he : xe_2 scr nL r d pc lv st h c s = none) : xe_2 scr nL r d pc lw st h c s = none := by
  unfold xe_2 at he ⊢
  cases h1 : xe_1 nL r pc lv st h c s with
  | some o => rw [h1] at he; cases he
  | none =>
    rw [h1] at he
    dsimp only at he
    have fo := fun lv lw => xe_o_lv (scr := scr) (r := r) (pc := pc) (lv := lv) (lw := lw) (st := st) (h := h) (c := c) (s := s)
    have fi := fun lv lw => xe_oi_lv (r := r) (pc := pc) (d := d) (lv := lv) (lw := lw) (st := st) (h := h) (c := c) (s := s)
    rw [xe_1_lv (lv := lv) nl, h1]
    cases h2 : xe_o scr r pc lv st h c s with
    | some o => rw [h2] at he; cases he
    | none =>
      rw [h2] at he
      dsimp only at he
      show (match xe_o scr r pc lw st h c s with
        | some o => some o
        | none => xe_oi r pc d lw st h c s) = none
      rw [xe_ol_n fo (lw := lw) h2]
      exact xe_ol_n fi he
theorem xe_x_sb {M : Nat → Option xm_M} {Cd : Nat → Nat → Option xr_R} : ∀ (f : Nat) (scr : Option (Nat × (Nat → Int32))) (d mid : Nat) (mi : xm_M) (pc : Nat) (lv lw : List (Nat × Value)) (st : List Value) (h : xh_H) (c s : Nat) (o : Option Value × xh_H × Nat × Nat), xl_sb lv lw → xe_x M Cd scr f d mid mi (pc, lv, st, h, c, s) = some o → xe_x M Cd scr f d mid mi (pc, lw, st, h, c, s) = some o := by
  intro f
  induction f with
  | zero => intro scr d mid mi pc lv lw st h c s o hs he; cases he
  | succ f ih =>
    intro scr d mid mi pc lv lw st h c s o hs he
    unfold xe_x at he ⊢
    cases hr : Cd mid pc with
    | none => rw [hr] at he; cases he
    | some r =>
      rw [hr] at he
      dsimp only at he ⊢
      cases hi : xe_isr r.1 with
      | true => rw [hi] at he; exact he
      | false =>
        rw [hi] at he
        simp only [cond_false] at he ⊢
        cases h2 : xe_2 scr mi.2.2.2.1 r d pc lv st h c s with
        | some o1 =>
          obtain ⟨pc1, lv1, st1, h1, c1, s1⟩ := o1
          rw [h2] at he
          obtain ⟨lw1, g1, g2⟩ := xe_2_sb hs h2
          rw [g1]
          exact ih _ _ _ _ _ _ _ _ _ _ _ _ g2 he
        | none =>
          rw [h2] at he
          dsimp only at he
          cases d with
          | zero => cases he
          | succ d' =>
            dsimp only at he
            cases hcl : xe_cl M r st h with
            | none => rw [hcl] at he; cases he
            | some t =>
              obtain ⟨mj, As, q⟩ := t
              have nl : xa_l r.1 = false := by
                unfold xe_cl at hcl
                split at hcl
                · cases hcl
                · obtain ⟨i, len, ra, rb, rK, ri⟩ := r
                  cases i <;> first | rfl | cases hcl
              rw [xe_2_sn nl h2]
              rw [hcl] at he
              dsimp only at he ⊢
              cases hx : xe_x M Cd none f d' r.2.2.1 mj (0, lv_args 0 As, [], h, 0, 0) with
              | none => rw [hx] at he; cases he
              | some t =>
                obtain ⟨v, h', mc, ms⟩ := t
                rw [hx] at he
                dsimp only at he ⊢
                exact ih _ _ _ _ _ _ _ _ _ _ _ _ hs he
theorem xR_sb {scr : Option (Nat × (Nat → Int32))} {d mid : Nat} {mi : xm_M} {pc : Nat} {lv lw : List (Nat × Value)} {st : List Value} {h : xh_H} {c s : Nat} {o : Option Value × xh_H × Nat × Nat} (hs : xl_sb lv lw) (k : xR scr d mid mi (pc, lv, st, h, c, s) o) : xR scr d mid mi (pc, lw, st, h, c, s) o := by
  obtain ⟨f, hf⟩ := k
  exact ⟨f, xe_x_sb f _ _ _ _ _ _ _ _ _ _ _ _ hs hf⟩
/-- A RUN COMES TO AN END OF WHICH Q HOLDS -/
def xt_P (d mid : Nat) (mi : xm_M) (pc : Nat) (lv : List (Nat × Value)) (st : List Value) (h : xh_H) (Q : Option Value → xh_H → Prop) : Prop := ∃ v h', xR none d mid mi (pc, lv, st, h, 0, 0) (v, h', 0, 0) ∧ Q v h'
/-- a piece of code along a path, and the locals that are kept -/
def xa_n (tb : aT) (mid nL stop f : Nat) (p : List Bool) (ks : List Nat) (pc : Nat) (lv : List (Nat × Value)) (st : List Value) (h : xh_H) : Option (xa_S × Prop) := cond (xl_nd ks) (match xa tb mid nL stop f false p pc lv st h with
  | some ((pc1, lv1, st1, h1), P) => (match xl_pk ks lv1 with
    | some l => some ((pc1, l, st1, h1), P)
    | none => none)
  | none => none) none
variable {tb : aT} {mid d : Nat} {mi : xm_M} {pc : Nat} {lv : List (Nat × Value)} {st : List Value} {h : xh_H} {Q : Option Value → xh_H → Prop}
theorem xa_tn (pc1 : Nat) (ks : List Nat) (lv1 : List (Nat × Value)) (st1 : List Value) (h1 : xh_H) (p : List Bool) (f : Nat) {P : Prop} (hq : a_rq tb h) (he : xa_n tb mid mi.2.2.2.1 pc1 f p ks pc lv st h = some ((pc1, lv1, st1, h1), P)) (hP : P) (k : a_rq tb h1 → xt_P d mid mi pc1 lv1 st1 h1 Q) : xt_P d mid mi pc lv st h Q := by
  unfold xa_n at he
  obtain ⟨n1, he⟩ := xw_c he
  split at he
  · rename_i pc2 lv2 st2 h2 P2 hx
    split at he
    · rename_i l hl
      cases he
      obtain ⟨k1, k2⟩ := xa_ok (d := d) f false p pc lv st h _ _ hx hq hP
      obtain ⟨v, h', r, q⟩ := k k1
      obtain ⟨e1, e2⟩ := xl_pk_ok hl
      refine ⟨v, h', k2 _ (xR_sb ⟨?_, e2⟩ r), q⟩
      rw [e1]
      exact xl_nd_ok n1
    · cases he
  · cases he
theorem xp_ret {r : xr_R} {v : Option Value} (hr : xC mid pc = some r) (hi : xe_isr r.1 = true) (hv : xe_rv r.1 mi.2.2.2.2.1 st = some v) (hQ : Q v h) : xt_P d mid mi pc lv st h Q := ⟨v, h, xR_ret hr hi hv, hQ⟩
theorem xp_step {r : xr_R} {pc1 : Nat} {lv1 : List (Nat × Value)} {st1 : List Value} {h1 : xh_H} (hr : xC mid pc = some r) (hi : xe_isr r.1 = false) (h2 : xe_2 none mi.2.2.2.1 r d pc lv st h 0 0 = some (pc1, lv1, st1, h1, 0, 0)) (k : xt_P d mid mi pc1 lv1 st1 h1 Q) : xt_P d mid mi pc lv st h Q := by
  obtain ⟨v, h', r, q⟩ := k
  exact ⟨v, h', xR_step hr hi h2 r, q⟩
/-- a call by its contract -/
theorem xp_by {C : aC} {r : xr_R} {mj : xm_M} {As q : List Value} {σ : aN → Int} (hC : a_spec tb C) (hq : a_rq tb h) (hi : a_inv tb h) (hr : xC mid pc = some r) (hid : C.1 = r.2.2.1) (he : xa_c r st = some (mj, As, q)) (hd : C.2.1 ≤ d) (ha : a_st σ h.1.length C.2.2.1 As) (hp : a_fp C.2.2.2.2.2 h)
    (k : ∀ v h', a_post tb h C.2.2.2.2.1 (a_sg As) C.2.2.2.1 v h' → a_rq tb h' → xt_P (d + 1) mid mi (pc + 3) lv (v.toList ++ q) h' Q) : xt_P (d + 1) mid mi pc lv st h Q := by
  obtain ⟨e1, e2, e3, e4⟩ := xa_c_ok (d := d) (pc := pc) (lv := lv) (nL := mi.2.2.2.1) hq he
  obtain ⟨v, h', r1, p1⟩ := hC d mj As h σ hd (by rw [hid]; exact e4) hi hq.1 ha hp
  obtain ⟨v2, h2, r2, q2⟩ := k v h' p1 (a_rq_of p1.1.1 (by rw [p1.2.1]; exact hq.1))
  refine ⟨v2, h2, xR_call (v := v) (h' := h') (mc := 0) (ms := 0) hr e3 e2 e1 ?_ r2, q2⟩
  rw [← hid]
  exact r1
/-- a call by what is known of its runs -/
theorem xp_run {r : xr_R} {mj : xm_M} {As q : List Value} {Q1 : Option Value → xh_H → Prop} (hq : a_rq tb h) (hr : xC mid pc = some r) (he : xa_c r st = some (mj, As, q)) (hm : xt_P d r.2.2.1 mj 0 (lv_args 0 As) [] h Q1)
    (k : ∀ v h', Q1 v h' → xt_P (d + 1) mid mi (pc + 3) lv (v.toList ++ q) h' Q) : xt_P (d + 1) mid mi pc lv st h Q := by
  obtain ⟨e1, e2, e3, e4⟩ := xa_c_ok (d := d) (pc := pc) (lv := lv) (nL := mi.2.2.2.1) hq he
  obtain ⟨v, h', r1, p1⟩ := hm
  obtain ⟨v2, h2, r2, q2⟩ := k v h' p1
  exact ⟨v2, h2, xR_call (v := v) (h' := h') (mc := 0) (ms := 0) hr e3 e2 e1 r1 r2, q2⟩
theorem xp_mono {Q1 : Option Value → xh_H → Prop} (h1 : xt_P d mid mi pc lv st h Q1) (h2 : ∀ v h', Q1 v h' → Q v h') : xt_P d mid mi pc lv st h Q := by
  obtain ⟨v, h', r, q⟩ := h1
  exact ⟨v, h', r, h2 v h' q⟩
theorem xp_ind {α : Type} (m : α → Nat) {P : α → Prop} (step : ∀ a, (∀ b, m b < m a → P b) → P a) : ∀ a, P a := by
  have g : ∀ n a, m a < n → P a := by
    intro n
    induction n with
    | zero => intro a h; omega
    | succ n ih => intro a h; exact step a (fun b hb => ih b (by omega))
  exact fun a => g (m a + 1) a (Nat.lt_succ_self _)
/-- what a call leaves as it was -/
def a_fr (md : List (Nat × Nat)) (h h' : xh_H) : Prop := ∀ c k, a_fz c = true → (c, a_key c k) ∉ md → xg 0 h'.2.1 c k = xg 0 h.2.1 c k
/-- a call that answers an int, by its contract -/
theorem xp_int {C : aC} {r : xr_R} {mj : xm_M} {As q : List Value} {σ : aN → Int} {lo hi : Int} {o : Option (aN × Int)} {ft ff : aF} (hC : a_spec tb C) (hq : a_rq tb h) (hi0 : a_inv tb h) (hr : xC mid pc = some r) (hid : C.1 = r.2.2.1) (he : xa_c r st = some (mj, As, q)) (hd : C.2.1 ≤ d) (ha : a_st σ h.1.length C.2.2.1 As) (hp : a_fp C.2.2.2.2.2 h) (hret : C.2.2.2.1 = [(some (0, lo, hi, o, ft, ff), [])])
    (k : ∀ (x : Int32) (h' : xh_H), lo ≤ x.toInt → x.toInt ≤ hi → a_inv tb h' → h'.1 = h.1 → a_fr C.2.2.2.2.1 h h' → a_rq tb h' → xt_P (d + 1) mid mi (pc + 3) lv (.int x :: q) h' Q) : xt_P (d + 1) mid mi pc lv st h Q := by
  refine xp_by hC hq hi0 hr hid he hd ha hp (fun v h' p hq' => ?_)
  obtain ⟨p1, p2, ⟨t, ht, p3⟩, p4⟩ := p
  rw [hret] at ht
  cases List.mem_singleton.mp ht
  obtain ⟨⟨w, rfl, x, rfl, g1, g2, -⟩, -⟩ := p3
  exact k x h' g1 g2 p1 p2 p4 hq'
/-- a call that answers nothing -/
theorem xp_void {C : aC} {r : xr_R} {mj : xm_M} {As q : List Value} {σ : aN → Int} {P : aP} (hC : a_spec tb C) (hq : a_rq tb h) (hi0 : a_inv tb h) (hr : xC mid pc = some r) (hid : C.1 = r.2.2.1) (he : xa_c r st = some (mj, As, q)) (hd : C.2.1 ≤ d) (ha : a_st σ h.1.length C.2.2.1 As) (hp : a_fp C.2.2.2.2.2 h) (hret : C.2.2.2.1 = [(none, P)])
    (k : ∀ (h' : xh_H), a_fp P h' → a_inv tb h' → h'.1 = h.1 → a_fr C.2.2.2.2.1 h h' → a_rq tb h' → xt_P (d + 1) mid mi (pc + 3) lv q h' Q) : xt_P (d + 1) mid mi pc lv st h Q := by
  refine xp_by hC hq hi0 hr hid he hd ha hp (fun v h' p hq' => ?_)
  obtain ⟨p1, p2, ⟨t, ht, p3⟩, p4⟩ := p
  rw [hret] at ht
  cases List.mem_singleton.mp ht
  obtain ⟨g1, g2⟩ := p3
  cases g1
  exact k h' g2 p1 p2 p4 hq'
theorem a_av {σ : aN → Int} {n t : Nat} (ht : t < 72) (hn : 72 ≤ n) : a_v σ n (2, (t : Int), 0, none, [], []) (.ref t) := ⟨t, rfl, by omega, by show a_tg t = ((t : Nat) : Int).toNat; rw [a_tg_lt ht]; omega⟩
theorem a_ai {σ : aN → Int} {n : Nat} {lo hi : Int} {x : Int32} (h1 : lo ≤ x.toInt) (h2 : x.toInt ≤ hi) : a_v σ n (0, lo, hi, none, [], []) (.int x) := a_vi rfl (a_I_ok h1 h2)
/-! comparisons -/
theorem xlt_t {x y : Int32} (h : x.toInt < y.toInt) : xe_c .lt x y = true := decide_eq_true (Int32.lt_iff_toInt_lt.mpr h)
theorem xlt_f {x y : Int32} (h : y.toInt ≤ x.toInt) : xe_c .lt x y = false := decide_eq_false (fun z => by have := Int32.lt_iff_toInt_lt.mp z; omega)
theorem xge_t {x y : Int32} (h : y.toInt ≤ x.toInt) : xe_c .ge x y = true := decide_eq_true (Int32.le_iff_toInt_le.mpr h)
theorem xge_f {x y : Int32} (h : x.toInt < y.toInt) : xe_c .ge x y = false := decide_eq_false (fun z => by have := Int32.le_iff_toInt_le.mp z; omega)
theorem xgt_t {x y : Int32} (h : y.toInt < x.toInt) : xe_c .gt x y = true := decide_eq_true (Int32.lt_iff_toInt_lt.mpr h)
theorem xgt_f {x y : Int32} (h : x.toInt ≤ y.toInt) : xe_c .gt x y = false := decide_eq_false (fun z => by have := Int32.lt_iff_toInt_lt.mp z; omega)
theorem xle_t {x y : Int32} (h : x.toInt ≤ y.toInt) : xe_c .le x y = true := decide_eq_true (Int32.le_iff_toInt_le.mpr h)
theorem xle_f {x y : Int32} (h : y.toInt < x.toInt) : xe_c .le x y = false := decide_eq_false (fun z => by have := Int32.le_iff_toInt_le.mp z; omega)
theorem xeq_t {x y : Int32} (h : x.toInt = y.toInt) : xe_c .eq x y = true := decide_eq_true (Int32.toInt_inj.mp h)
theorem xeq_f {x y : Int32} (h : x.toInt ≠ y.toInt) : xe_c .eq x y = false := decide_eq_false (fun z => h (congrArg Int32.toInt z))
theorem xne_t {x y : Int32} (h : x.toInt ≠ y.toInt) : xe_c .ne x y = true := by
  show (!decide (x = y)) = true
  rw [decide_eq_false (fun z => h (congrArg Int32.toInt z))]
  rfl
theorem xne_f {x y : Int32} (h : x.toInt = y.toInt) : xe_c .ne x y = false := by
  show (!decide (x = y)) = false
  rw [decide_eq_true (Int32.toInt_inj.mp h)]
  rfl
end XHS
end
section
section XHK
/-- the heap keeps its bounds, and only what is told has changed -/
def hk (md : List (Nat × Nat)) (h0 h : xh_H) : Prop := a_inv a_tb h ∧ h.1 = h0.1 ∧ a_fr md h0 h
variable {md md' : List (Nat × Nat)} {h0 h h' : xh_H} {c k : Nat} {x y : Int32}
def a_mb (md : List (Nat × Nat)) (c k : Nat) : Bool := md.any fun q => Nat.beq q.1 c && Nat.beq q.2 (a_key c k)
theorem a_mb_t (h : a_mb md c k = true) : (c, a_key c k) ∈ md := by
  obtain ⟨q, h1, h2⟩ := List.any_eq_true.mp h
  obtain ⟨h3, h4⟩ := xw_bb h2
  have e : q = (c, a_key c k) := Prod.ext (xw_beq h3) (xw_beq h4)
  rw [← e]
  exact h1
theorem a_mb_f (h : a_mb md c k = false) : (c, a_key c k) ∉ md := by
  intro hm
  have : a_mb md c k = true := List.any_eq_true.mpr ⟨_, hm, by rw [Nat.beq_refl, Nat.beq_refl]; rfl⟩
  rw [this] at h
  cases h
theorem fr_g (hf : a_fr md h h') (hz : a_fz c = true) (hm : a_mb md c k = false) : xg 0 h'.2.1 c k = xg 0 h.2.1 c k := hf c k hz (a_mb_f hm)
theorem hk_0 (hi : a_inv a_tb h) : hk md h h := ⟨hi, rfl, fun _ _ _ _ => rfl⟩
theorem hk_n (hk0 : hk md h0 h) (hn : 72 ≤ h0.1.length) : 72 ≤ h.1.length := by rw [hk0.2.1]; exact hn
theorem hk_q (hk0 : hk md h0 h) (hn : 72 ≤ h0.1.length) : a_rq a_tb h := a_rq_of hk0.1.1 (hk_n hk0 hn)
theorem hk_g (hk0 : hk md h0 h) (hz : a_fz c = true) (hm : a_mb md c k = false) : xg 0 h.2.1 c k = xg 0 h0.2.1 c k := hk0.2.2 c k hz (a_mb_f hm)
theorem hk_ui {s : Nat × Nat} {lo hi : Int} (hk0 : hk md h0 h) (hn : 72 ≤ h0.1.length) (hs : a_sh[c]? = some s) (he : a_ent a_tb s c k = (0, lo, hi)) (h1 : lo ≤ x.toInt) (h2 : x.toInt ≤ hi) (hj : a_jc c k = false) (hm : a_mb md c k = true) : hk md h0 (xh_ui h c k x) := by
  have hc := a_sh_lt hs
  refine ⟨⟨a_inw_ui hk0.1.1 ((hk_q hk0 hn).2.1 c s hs) (by rw [a_tg_lt hc]; exact he) h1 h2, a_J_ui hk0.1.2 hj⟩, hk0.2.1, ?_⟩
  intro c' k' hz hm'
  rw [← hk0.2.2 c' k' hz hm']
  by_cases e : c' = c
  · subst e
    by_cases e2 : k' = k
    · subst e2
      exact absurd (a_mb_t hm) hm'
    · exact xh_up_k e2
  · exact congrFun (xh_up_o e) k'
theorem hk_c (hk0 : hk md h0 h) (hi : a_inv a_tb h') (hl : h'.1 = h.1) (hf : a_fr md' h h') (hs : ∀ q, q ∈ md' → q ∈ md) : hk md h0 h' := by
  refine ⟨hi, hl.trans hk0.2.1, fun c k hz hm => ?_⟩
  rw [hf c k hz (fun z => hm (hs _ z))]
  exact hk0.2.2 c k hz hm
theorem fr_nil (hf : a_fr [] h h') (hz : a_fz c = true) : xg 0 h'.2.1 c k = xg 0 h.2.1 c k := hf c k hz (fun z => nomatch z)
theorem a_nk {m : Nat} (h1 : 0 ≤ x.toInt) (h2 : x.toInt ≤ (m : Int)) : ∃ k : Nat, x = nI k ∧ k ≤ m ∧ k < 2 ^ 31 := by
  obtain ⟨e, l⟩ := a_nIx h1
  exact ⟨_, e, by omega, l⟩
theorem xin_n {n : Nat} (h : k < n) (hn : k < 2 ^ 31) : xe_in (nI k) n = true := a_xin (by rw [nI_toInt hn]; omega) (by rw [nI_toInt hn]; omega)
theorem nge_t {a b : Nat} (ha : a < 2 ^ 31) (hb : b < 2 ^ 31) (h : b ≤ a) : xe_c .ge (nI a) (nI b) = true := xge_t (by rw [nI_toInt ha, nI_toInt hb]; omega)
theorem nge_f {a b : Nat} (ha : a < 2 ^ 31) (hb : b < 2 ^ 31) (h : a < b) : xe_c .ge (nI a) (nI b) = false := xge_f (by rw [nI_toInt ha, nI_toInt hb]; omega)
theorem gx_s : xg 0 (xh_ui h c k x).2.1 c k = x := xh_up_s
theorem gx_k {k' : Nat} (e : k' ≠ k) : xg 0 (xh_ui h c k x).2.1 c k' = xg 0 h.2.1 c k' := xh_up_k e
theorem gx_o {c' k' : Nat} (e : c' ≠ c) : xg 0 (xh_ui h c k x).2.1 c' k' = xg 0 h.2.1 c' k' := congrFun (xh_up_o e) k'
theorem gx_i {c' k' : Nat} (e : ¬ (c' = c ∧ k' = k)) : xg 0 (xh_ui h c k x).2.1 c' k' = xg 0 h.2.1 c' k' := by
  by_cases e1 : c' = c
  · subst e1
    exact gx_k (fun z => e ⟨rfl, z⟩)
  · exact gx_o e1
theorem a_elx {n : Nat} {lo hi : Int} (hi0 : a_inw a_tb h) (hn : 72 ≤ h.1.length) (hs : a_sh[c]? = some (1, n)) (he : a_ent a_tb (1, n) c 0 = (0, lo, hi)) (hk : k < n) : lo ≤ (xg 0 h.2.1 c k).toInt ∧ (xg 0 h.2.1 c k).toInt ≤ hi := by
  have h1 := (a_rq_of hi0 hn).2.1 c _ hs
  have g := (hi0 c _ h1).2 k hk
  rw [a_tg_lt (a_sh_lt hs), a_ent0 (fun z => by cases z), he] at g
  exact g
theorem a_blx {n : Nat} {lo hi : Int} (hi0 : a_inw a_tb h) (hn : 72 ≤ h.1.length) (hs : a_sh[c]? = some (3, n)) (he : a_ent a_tb (3, n) c 0 = (0, lo, hi)) (hk : k < n) : lo ≤ (xg 0 h.2.1 c k).toInt ∧ (xg 0 h.2.1 c k).toInt ≤ hi := by
  have h1 := (a_rq_of hi0 hn).2.1 c _ hs
  have g := (hi0 c _ h1).2 k hk
  rw [a_tg_lt (a_sh_lt hs), a_ent0 (fun z => by cases z), he] at g
  exact g
theorem a_flx {ci : Nat} {lo hi : Int} (hi0 : a_inw a_tb h) (hn : 72 ≤ h.1.length) (hs : a_sh[c]? = some (0, ci)) (he : a_ent a_tb (0, ci) c k = (0, lo, hi)) (hk : k < xh_N ci) : lo ≤ (xg 0 h.2.1 c k).toInt ∧ (xg 0 h.2.1 c k).toInt ≤ hi := by
  have h1 := (a_rq_of hi0 hn).2.1 c _ hs
  have g := (hi0 c _ h1).2 k hk
  rw [a_tg_lt (a_sh_lt hs), he] at g
  exact g
theorem nI_dec2 (n : Nat) : nI (n + 1) + Int32.ofInt (-1) = nI n := by
  rw [nI_succ, Int32.add_assoc]
  exact Int32.add_zero _
theorem i_add (hb1 : -2147483648 ≤ x.toInt + y.toInt) (hb2 : x.toInt + y.toInt ≤ 2147483647) : (x + y).toInt = x.toInt + y.toInt := ar_add hb1 hb2
theorem i_inc (hb : x.toInt < 2147483647) : (x + Int32.ofInt 1).toInt = x.toInt + 1 := by
  have e : (Int32.ofInt 1).toInt = 1 := rfl
  have := ar_rng x
  rw [ar_add (by rw [e]; omega) (by rw [e]; omega), e]
end XHK
end
