section XTX
/-! the tokens of a text, as pure functions of its bytes T and how many there are, n -/
def p_bk (c : Nat) : Bool := decide (c = 32 ∨ c = 10)
def p_lt (c : Nat) : Bool := decide (97 ≤ c ∧ c ≤ 122)
def p_dg (c : Nat) : Bool := decide (48 ≤ c ∧ c ≤ 57)
def p_an (c : Nat) : Bool := decide ((97 ≤ c ∧ c ≤ 122) ∨ (48 ≤ c ∧ c ≤ 57))
def p_sn (c : Nat) : Bool := decide (c = 59 ∨ c = 58 ∨ c = 42 ∨ c = 40 ∨ c = 41 ∨ c = 91 ∨ c = 93)
/-- the first place from p on where g does not hold, F places on at most -/
def skp (g : Nat → Bool) : Nat → Nat → Nat
  | 0, p => p
  | F + 1, p => cond (g p) (skp g F (p + 1)) p
theorem skp_ge {g : Nat → Bool} : ∀ {F p : Nat}, p ≤ skp g F p := by
  intro F
  induction F with
  | zero => intro p; exact Nat.le_refl _
  | succ F ih =>
    intro p
    unfold skp
    cases g p
    · exact Nat.le_refl _
    · have := ih (p := p + 1)
      show p ≤ skp g F (p + 1)
      omega
theorem skp_le {g : Nat → Bool} : ∀ {F p : Nat}, skp g F p ≤ p + F := by
  intro F
  induction F with
  | zero => intro p; exact Nat.le_refl _
  | succ F ih =>
    intro p
    unfold skp
    cases g p
    · show p ≤ p + (F + 1); omega
    · have := ih (p := p + 1)
      show skp g F (p + 1) ≤ p + (F + 1)
      omega
theorem skp_eq {g : Nat → Bool} : ∀ {m F p : Nat}, (∀ k, p ≤ k → k < p + m → g k = true) → m ≤ F → (m = F ∨ g (p + m) = false) → skp g F p = p + m := by
  intro m
  induction m with
  | zero =>
    intro F p _ _ h3
    cases F with
    | zero => rfl
    | succ F =>
      rcases h3 with h3 | h3
      · omega
      · unfold skp
        rw [show g p = false from h3]
        rfl
  | succ m ih =>
    intro F p h1 h2 h3
    cases F with
    | zero => omega
    | succ F =>
      unfold skp
      rw [h1 p (Nat.le_refl _) (by omega)]
      show skp g F (p + 1) = p + (m + 1)
      rw [ih (fun k z1 z2 => h1 k (by omega) (by omega)) (by omega) (by
        rcases h3 with h3 | h3
        · exact Or.inl (by omega)
        · exact Or.inr (by rw [show p + 1 + m = p + (m + 1) by omega]; exact h3))]
      omega
theorem skp_in {g : Nat → Bool} : ∀ {F p k : Nat}, p ≤ k → k < skp g F p → g k = true := by
  intro F
  induction F with
  | zero => intro p k h1 h2; have h2 : k < p := h2; omega
  | succ F ih =>
    intro p k h1 h2
    unfold skp at h2
    cases hg : g p with
    | false => rw [hg] at h2; have h2 : k < p := h2; omega
    | true =>
      rw [hg] at h2
      by_cases e : k = p
      · subst e; exact hg
      · exact ih (p := p + 1) (by omega) h2
theorem skp_at {g : Nat → Bool} : ∀ {F p : Nat}, skp g F p < p + F → g (skp g F p) = false := by
  intro F
  induction F with
  | zero => intro p h; have h : p < p + 0 := h; omega
  | succ F ih =>
    intro p h
    unfold skp at h ⊢
    cases hg : g p with
    | false => exact hg
    | true =>
      rw [hg] at h
      exact ih (p := p + 1) (by have h : skp g F (p + 1) < p + (F + 1) := h; omega)
variable (T : Nat → Nat) (n : Nat)
def cL (q : Nat) : Nat → Nat
  | 0 => 0
  | m + 1 => cL q m + cond (p_lt (T (q + m))) 1 0
def cD (q : Nat) : Nat → Nat
  | 0 => 0
  | m + 1 => cD q m + cond (p_dg (T (q + m))) 1 0
/-- a number's value, by its first three digits -/
def vf (q : Nat) : Nat → Nat
  | 0 => 0
  | m + 1 => cond (p_dg (T (q + m)) && Nat.ble (cD T q (m + 1)) 3) (vf q m * 10 + (T (q + m) - 48)) (vf q m)
/-- a word's value, letters as digits 1 to 26 -/
def wv (q : Nat) : Nat → Nat
  | 0 => 0
  | m + 1 => 27 * wv q m + (T (q + m) - 96)
/-- the end of a run of letters and digits -/
def rn (q : Nat) : Nat := skp (fun k => p_an (T k)) (n - q) q
def kw (l d : Nat) : Nat := if d = 0 ∧ l ≤ 8 then 2 else if l = 0 ∧ d ≤ 3 then 3 else 1
/-- where the token begins that is read from p on; its kind; its end -/
def tks (p : Nat) : Nat := min (skp (fun k => p_bk (T k)) (n - p) p) (min n 600)
def kq (q : Nat) : Nat := if min n 600 ≤ q then 0 else if p_an (T q) = true then kw (cL T q (rn T n q - q)) (cD T q (rn T n q - q)) else if p_sn (T q) = true then T q else 1
def eq_ (q : Nat) : Nat := if p_an (T q) = true then rn T n q else q + 1
def tkk (p : Nat) : Nat := kq T n (tks T n p)
def tke (p : Nat) : Nat := eq_ T n (tks T n p)
/-- a number's value; a word's -/
def tkn (p : Nat) : Nat := vf T (tks T n p) (tke T n p - tks T n p)
def tkw (p : Nat) : Nat := wv T (tks T n p) (tke T n p - tks T n p)
variable {T : Nat → Nat} {n : Nat}
theorem tks_b {p : Nat} (hp : p < n) (hb : p_bk (T p) = true) : tks T n p = tks T n (p + 1) := by
  unfold tks
  obtain ⟨F, e⟩ : ∃ F, n - p = F + 1 := ⟨n - p - 1, by omega⟩
  rw [e, show n - (p + 1) = F by omega, skp, hb]
  rfl
theorem tks_n {p : Nat} (hp : min n 600 ≤ p) : tks T n p = min n 600 := by
  unfold tks
  have := skp_ge (g := fun k => p_bk (T k)) (F := n - p) (p := p)
  omega
theorem tks_s {p : Nat} (hp : p < min n 600) (hb : p_bk (T p) = false) : tks T n p = p := by
  unfold tks
  rw [skp_eq (g := fun k => p_bk (T k)) (m := 0) (p := p) (fun k z1 z2 => by omega) (Nat.zero_le _) (Or.inr hb)]
  omega
theorem tks_le {p : Nat} : tks T n p ≤ min n 600 := by
  unfold tks
  omega
theorem tks_ge {p : Nat} (hp : p ≤ min n 600) : p ≤ tks T n p := by
  unfold tks
  have := skp_ge (g := fun k => p_bk (T k)) (F := n - p) (p := p)
  omega
theorem rn_le {q : Nat} (hq : q ≤ n) : rn T n q ≤ n := by
  unfold rn
  have := skp_le (g := fun k => p_an (T k)) (F := n - q) (p := q)
  omega
theorem rn_ge {q : Nat} : q ≤ rn T n q := skp_ge
theorem rn_gt {q : Nat} (hq : q < n) (h : p_an (T q) = true) : q < rn T n q := by
  unfold rn
  obtain ⟨F, e⟩ : ∃ F, n - q = F + 1 := ⟨n - q - 1, by omega⟩
  rw [e, skp, h]
  have := skp_ge (g := fun k => p_an (T k)) (F := F) (p := q + 1)
  show q < skp _ F (q + 1)
  omega
theorem rn_eq {q m : Nat} (h1 : ∀ k, q ≤ k → k < q + m → p_an (T k) = true) (h2 : q + m ≤ n) (h3 : q + m = n ∨ p_an (T (q + m)) = false) : rn T n q = q + m := skp_eq h1 (by omega) (by
  rcases h3 with h3 | h3
  · exact Or.inl (by omega)
  · exact Or.inr h3)
theorem cLD {q : Nat} : ∀ {m : Nat}, (∀ k, q ≤ k → k < q + m → p_an (T k) = true) → cL T q m + cD T q m = m := by
  intro m
  induction m with
  | zero => intro _; rfl
  | succ m ih =>
    intro h
    have e := ih (fun k z1 z2 => h k z1 (by omega))
    have g := h (q + m) (by omega) (by omega)
    unfold p_an at g
    have g := of_decide_eq_true g
    unfold cL cD
    rcases g with g | g
    · rw [show p_lt (T (q + m)) = true from decide_eq_true g, show p_dg (T (q + m)) = false from decide_eq_false (by omega)]
      dsimp only [cond]
      omega
    · rw [show p_dg (T (q + m)) = true from decide_eq_true g, show p_lt (T (q + m)) = false from decide_eq_false (by omega)]
      dsimp only [cond]
      omega
theorem vf_lt {q : Nat} : ∀ {m : Nat}, vf T q m < 10 ^ min (cD T q m) 3 := by
  intro m
  induction m with
  | zero => show 0 < 10 ^ min 0 3; decide
  | succ m ih =>
    unfold vf
    have e : cD T q (m + 1) = cD T q m + cond (p_dg (T (q + m))) 1 0 := rfl
    cases hd : p_dg (T (q + m)) with
    | false =>
      rw [hd] at e
      rw [e]
      exact ih
    | true =>
      rw [hd] at e
      have e : cD T q (m + 1) = cD T q m + 1 := e
      cases hb : Nat.ble (cD T q (m + 1)) 3 with
      | false =>
        have hb : ¬ cD T q (m + 1) ≤ 3 := fun z => by rw [Nat.ble_eq.mpr z] at hb; cases hb
        show vf T q m < _
        rw [show min (cD T q (m + 1)) 3 = min (cD T q m) 3 by omega]
        exact ih
      | true =>
        have hb := Nat.ble_eq.mp hb
        show vf T q m * 10 + (T (q + m) - 48) < _
        have g := of_decide_eq_true hd
        rw [show min (cD T q (m + 1)) 3 = min (cD T q m) 3 + 1 by omega, Nat.pow_succ]
        omega
theorem vf_999 {q m : Nat} : vf T q m ≤ 999 := by
  have h1 := vf_lt (T := T) (q := q) (m := m)
  have h2 : 10 ^ min (cD T q m) 3 ≤ 10 ^ 3 := Nat.pow_le_pow_right (by decide) (by omega)
  have h3 : (10 : Nat) ^ 3 = 1000 := rfl
  omega
end XTX
