section XWD
variable {T : Nat → Nat} {n p : Nat}
theorem cD_0 {q : Nat} : ∀ {m : Nat}, cD T q m = 0 → ∀ k, k < m → p_dg (T (q + k)) = false := by
  intro m
  induction m with
  | zero => intro _ k hk'; omega
  | succ m ih =>
    intro h k hk'
    have h : cD T q m + cond (p_dg (T (q + m))) 1 0 = 0 := h
    by_cases e : k = m
    · subst e
      cases hd : p_dg (T (q + k)) with
      | false => rfl
      | true => rw [hd] at h; dsimp only [cond] at h; omega
    · exact ih (by omega) k (by omega)
theorem cL_0 {q : Nat} : ∀ {m : Nat}, cL T q m = 0 → ∀ k, k < m → p_lt (T (q + k)) = false := by
  intro m
  induction m with
  | zero => intro _ k hk'; omega
  | succ m ih =>
    intro h k hk'
    have h : cL T q m + cond (p_lt (T (q + m))) 1 0 = 0 := h
    by_cases e : k = m
    · subst e
      cases hd : p_lt (T (q + k)) with
      | false => rfl
      | true => rw [hd] at h; dsimp only [cond] at h; omega
    · exact ih (by omega) k (by omega)
theorem p_an_or {c : Nat} (h : p_an c = true) : p_lt c = true ∨ p_dg c = true := by
  rcases of_decide_eq_true h with z | z
  · exact Or.inl (decide_eq_true z)
  · exact Or.inr (decide_eq_true z)
theorem sn_ge {c : Nat} (h : p_sn c = true) : 40 ≤ c := by
  have := of_decide_eq_true h
  omega
theorem sn_na {c : Nat} (h : p_sn c = true) : p_an c = false := by
  have := of_decide_eq_true h
  exact decide_eq_false (by omega)
theorem rn_in {q k : Nat} (h1 : q ≤ k) (h2 : k < rn T n q) : p_an (T k) = true := skp_in (g := fun k => p_an (T k)) h1 h2
theorem kw_le {l d : Nat} : kw l d = 2 ∨ kw l d = 3 ∨ kw l d = 1 := by
  unfold kw
  split
  · exact Or.inl rfl
  · split
    · exact Or.inr (Or.inl rfl)
    · exact Or.inr (Or.inr rfl)
/-- what a token's kind says -/
theorem tkk_cs : (min n 600 ≤ tks T n p ∧ tkk T n p = 0) ∨ (tks T n p < min n 600 ∧ p_an (T (tks T n p)) = true ∧ tkk T n p = kw (cL T (tks T n p) (rn T n (tks T n p) - tks T n p)) (cD T (tks T n p) (rn T n (tks T n p) - tks T n p)) ∧ tke T n p = rn T n (tks T n p)) ∨ (tks T n p < min n 600 ∧ p_sn (T (tks T n p)) = true ∧ tkk T n p = T (tks T n p) ∧ tke T n p = tks T n p + 1) ∨ (tks T n p < min n 600 ∧ tkk T n p = 1 ∧ p_an (T (tks T n p)) = false ∧ p_sn (T (tks T n p)) = false ∧ tke T n p = tks T n p + 1) := by
  unfold tkk tke kq eq_
  by_cases h1 : min n 600 ≤ tks T n p
  · exact Or.inl ⟨h1, by rw [if_pos h1]⟩
  · rw [if_neg h1]
    cases h2 : p_an (T (tks T n p)) with
    | true => exact Or.inr (Or.inl ⟨by omega, rfl, by rw [if_pos rfl], by rw [if_pos rfl]⟩)
    | false =>
      rw [if_neg (show ¬ (false = true) by decide), if_neg (show ¬ (false = true) by decide)]
      cases h3 : p_sn (T (tks T n p)) with
      | true => exact Or.inr (Or.inr (Or.inl ⟨by omega, rfl, by rw [if_pos rfl], rfl⟩))
      | false => exact Or.inr (Or.inr (Or.inr ⟨by omega, by rw [if_neg (by decide)], rfl, rfl, rfl⟩))
theorem tkk_lt (hT : ∀ k, k < n → T k < 256) : tkk T n p < 256 := by
  rcases tkk_cs (T := T) (n := n) (p := p) with ⟨-, e⟩ | ⟨-, -, e, -⟩ | ⟨h1, -, e, -⟩ | ⟨-, e, -⟩
  · omega
  · rcases kw_le (l := cL T (tks T n p) (rn T n (tks T n p) - tks T n p)) (d := cD T (tks T n p) (rn T n (tks T n p) - tks T n p)) with z | z | z <;> omega
  · have := hT (tks T n p) (by omega)
    omega
  · omega
/-- a token ends behind its beginning -/
theorem tke_gt (h : tkk T n p ≠ 0) : tks T n p < tke T n p ∧ tke T n p ≤ n ∧ tks T n p < min n 600 := by
  rcases tkk_cs (T := T) (n := n) (p := p) with ⟨-, e⟩ | ⟨h1, h2, -, e⟩ | ⟨h1, -, -, e⟩ | ⟨h1, -, -, -, e⟩
  · exact absurd e h
  · rw [e]
    exact ⟨rn_gt (by omega) h2, rn_le (by omega), h1⟩
  · omega
  · omega
theorem tk2 (h : tkk T n p = 2) : cD T (tks T n p) (tke T n p - tks T n p) = 0 ∧ tke T n p - tks T n p ≤ 8 ∧ ∀ k, tks T n p ≤ k → k < tke T n p → 97 ≤ T k ∧ T k ≤ 122 := by
  rcases tkk_cs (T := T) (n := n) (p := p) with ⟨-, e⟩ | ⟨h1, h2, e, e2⟩ | ⟨h1, h2, e, -⟩ | ⟨h1, e, -⟩
  · omega
  · rw [e2]
    have e3 := cLD (T := T) (q := tks T n p) (m := rn T n (tks T n p) - tks T n p) (fun k z1 z2 => rn_in (n := n) z1 (by omega))
    rw [h] at e
    unfold kw at e
    split at e
    · rename_i z
      refine ⟨z.1, by omega, fun k z1 z2 => ?_⟩
      have y := cD_0 z.1 (k - tks T n p) (by omega)
      rw [show tks T n p + (k - tks T n p) = k by omega] at y
      rcases p_an_or (rn_in z1 z2) with w | w
      · exact of_decide_eq_true w
      · rw [w] at y; cases y
    · split at e
      · cases e
      · cases e
  · have := sn_ge h2
    omega
  · omega
theorem tk3 (h : tkk T n p = 3) : cL T (tks T n p) (tke T n p - tks T n p) = 0 ∧ tke T n p - tks T n p ≤ 3 ∧ ∀ k, tks T n p ≤ k → k < tke T n p → 48 ≤ T k ∧ T k ≤ 57 := by
  rcases tkk_cs (T := T) (n := n) (p := p) with ⟨-, e⟩ | ⟨h1, h2, e, e2⟩ | ⟨h1, h2, e, -⟩ | ⟨h1, e, -⟩
  · omega
  · rw [e2]
    have e3 := cLD (T := T) (q := tks T n p) (m := rn T n (tks T n p) - tks T n p) (fun k z1 z2 => rn_in (n := n) z1 (by omega))
    rw [h] at e
    unfold kw at e
    split at e
    · cases e
    · split at e
      · rename_i z
        refine ⟨z.1, by omega, fun k z1 z2 => ?_⟩
        have y := cL_0 z.1 (k - tks T n p) (by omega)
        rw [show tks T n p + (k - tks T n p) = k by omega] at y
        rcases p_an_or (rn_in z1 z2) with w | w
        · rw [w] at y; cases y
        · exact of_decide_eq_true w
      · cases e
  · have := sn_ge h2
    omega
  · omega
theorem wv_inj {A B : Nat → Nat} {q r : Nat} : ∀ {l m : Nat}, (∀ k, k < l → 97 ≤ A (q + k) ∧ A (q + k) ≤ 122) → (∀ k, k < m → 97 ≤ B (r + k) ∧ B (r + k) ≤ 122) → wv A q l = wv B r m → l = m ∧ ∀ k, k < l → A (q + k) = B (r + k) := by
  intro l
  induction l with
  | zero =>
    intro m _ hb e
    cases m with
    | zero => exact ⟨rfl, fun k hk' => by omega⟩
    | succ m =>
      have := hb m (by omega)
      have e : 0 = 27 * wv B r m + (B (r + m) - 96) := e
      omega
  | succ l ih =>
    intro m ha hb e
    have h1 := ha l (by omega)
    cases m with
    | zero =>
      have e : 27 * wv A q l + (A (q + l) - 96) = 0 := e
      omega
    | succ m =>
      have h2 := hb m (by omega)
      have e : 27 * wv A q l + (A (q + l) - 96) = 27 * wv B r m + (B (r + m) - 96) := e
      obtain ⟨e1, e2⟩ := ih (m := m) (fun k hk' => ha k (by omega)) (fun k hk' => hb k (by omega)) (by omega)
      subst e1
      refine ⟨rfl, fun k hk' => ?_⟩
      by_cases ek : k = l
      · subst ek
        omega
      · exact e2 k (by omega)
theorem wv_c {A B : Nat → Nat} {q r : Nat} : ∀ {l : Nat}, (∀ k, k < l → A (q + k) = B (r + k)) → wv A q l = wv B r l := by
  intro l
  induction l with
  | zero => intro _; rfl
  | succ l ih =>
    intro h
    show 27 * wv A q l + (A (q + l) - 96) = 27 * wv B r l + (B (r + l) - 96)
    rw [ih (fun k hk' => h k (by omega)), h l (by omega)]
/-- body, carry, and, or, of -/
def sL : List (List Nat) := [[98, 111, 100, 121], [99, 97, 114, 114, 121], [97, 110, 100], [111, 114], [111, 102]]
def sC (i k : Nat) : Nat := (sL.getD i []).getD k 0
def sN (i : Nat) : Nat := (sL.getD i []).length
def sW (i : Nat) : Nat := wv (sC i) 0 (sN i)
theorem sC_b : ∀ i, i < 5 → ∀ k, k < sN i → 97 ≤ sC i (0 + k) ∧ sC i (0 + k) ≤ 122 := by decide
theorem sW_e : sW 0 = 50434 ∧ sW 1 = 1627639 ∧ sW 2 = 1111 ∧ sW 3 = 423 ∧ sW 4 = 411 := by decide
theorem js_sC : ∀ i, i < 5 → ∀ k, k < sN i → js_ch i k = nI (sC i k) := by decide +kernel
theorem wd_iff {i : Nat} (hi : i < 5) (h : tkk T n p = 2) : tkw T n p = sW i ↔ tke T n p - tks T n p = sN i ∧ ∀ k, k < sN i → T (tks T n p + k) = sC i k := by
  have h2 := (tk2 h).2.2
  have h3 := tke_gt (show tkk T n p ≠ 0 by omega)
  constructor
  · intro e
    obtain ⟨e1, e2⟩ := wv_inj (A := T) (B := sC i) (q := tks T n p) (r := 0) (l := tke T n p - tks T n p) (m := sN i) (fun k hk' => h2 _ (by omega) (by omega)) (sC_b i hi) e
    refine ⟨e1, fun k hk' => ?_⟩
    rw [e2 k (by omega), Nat.zero_add]
  · intro ⟨e1, e2⟩
    unfold tkw sW
    rw [e1]
    exact wv_c (fun k hk' => by rw [e2 k hk', Nat.zero_add])
/-- the token is the i-th of the words that are no names; a name -/
def ky (T : Nat → Nat) (n p i : Nat) : Bool := decide (tkk T n p = 2 ∧ tkw T n p = sW i)
def nmt (T : Nat → Nat) (n p : Nat) : Bool := decide (tkk T n p = 2 ∧ 2 ≤ tke T n p - tks T n p ∧ tkw T n p ≠ sW 0 ∧ tkw T n p ≠ sW 1 ∧ tkw T n p ≠ sW 2 ∧ tkw T n p ≠ sW 3 ∧ tkw T n p ≠ sW 4)
def lone (T : Nat → Nat) (n p : Nat) : Bool := decide (tkk T n p = 2 ∧ tke T n p - tks T n p = 1)
theorem nI_sub {a b : Nat} (h : b ≤ a) : nI a - nI b = nI (a - b) := by
  obtain ⟨j, rfl⟩ : ∃ j, a = j + b := ⟨a - b, by omega⟩
  rw [← nI_add, Int32.add_sub_cancel, Nat.add_sub_cancel]
end XWD
