section XAU
/-! reading a rule as an automaton: a state is whether a one is awaited (1) or was read (0), where the token at hand begins to be read, how many ones there were, what is open (0 the rule itself, 1 a bracket, 2 a list; the innermost first) -/
abbrev aSt : Type := Nat × Nat × Nat × List Nat
abbrev aRs : Type := Sum aSt (Nat × Nat)
section
variable (T : Nat → Nat) (n mem nn : Nat) (NW : Nat → Nat)
/-- the name at hand was told -/
def hasn (w : Nat) : Bool := decide (∃ k, k < nn ∧ NW k = w)
/-- a list begins: 'of' is at hand -/
def bls (p o : Nat) (fs : List Nat) : aRs := if ky T n p 4 = false then .inr (1, tks T n p) else if tkk T n (tke T n p) ≠ 91 then .inr (1, tks T n (tke T n p)) else if fs.length = 13 then .inr (4, tks T n (tke T n p)) else .inl (1, tke T n (tke T n p), o, 2 :: fs)
/-- a one begins -/
def bo (p o : Nat) (fs : List Nat) : aRs := if tkk T n p = 3 then (if tkn T n p = 0 then .inr (2, tks T n p) else if o = 120 then .inr (4, tks T n p) else bls T n (tke T n p) (o + 1) fs) else if tkk T n p = 40 then (if o = 120 then .inr (4, tks T n p) else if fs.length = 13 then .inr (4, tks T n p) else .inl (1, tke T n p, o + 1, 1 :: fs)) else if lone T n p = true then (if mem ≤ T (tks T n p) - 97 then .inr (2, tks T n p) else if o = 120 then .inr (4, tks T n p) else .inl (0, tke T n p, o + 1, fs)) else if nmt T n p = true then (if hasn nn NW (tkw T n p) = false then .inr (3, tks T n p) else if o = 120 then .inr (4, tks T n p) else .inl (0, tke T n p, o + 1, fs)) else .inr (1, tks T n p)
/-- an item that begins with a number -/
def bi (p o : Nat) (fs : List Nat) : aRs := if tkk T n (tke T n p) = 42 then bo T n mem nn NW (tke T n (tke T n p)) o fs else if ky T n (tke T n p) 4 = false then .inr (1, tks T n (tke T n p)) else if tkn T n p = 0 then .inr (2, tks T n p) else if o = 120 then .inr (4, tks T n p) else bls T n (tke T n p) (o + 1) fs
def bg (p o : Nat) (fs : List Nat) : aRs := if fs.head? = some 2 ∧ tkk T n p = 3 then bi T n mem nn NW p o fs else bo T n mem nn NW p o fs
/-- a one was read; the rule is read when nothing is open any more -/
def en (p o : Nat) (fs : List Nat) : aRs := if fs.head? = some 2 then (if tkk T n p = 93 then .inl (0, tke T n p, o, fs.tail) else .inl (1, p, o, fs)) else if ky T n p 2 = true then .inl (1, tke T n p, o, fs) else if ky T n p 3 = true then .inl (1, tke T n p, o, fs) else if fs.head? = some 0 then (if tkk T n p = 59 then .inl (0, tke T n p, o, []) else .inr (1, tks T n p)) else if tkk T n p = 41 then .inl (0, tke T n p, o, fs.tail) else .inr (1, tks T n p)
def stp (s : aSt) : aRs := if s.2.2.2 = [] then .inl s else if s.1 = 1 then bg T n mem nn NW s.2.1 s.2.2.1 s.2.2.2 else en T n s.2.1 s.2.2.1 s.2.2.2
def its : Nat → aSt → aRs
  | 0, s => .inl s
  | k + 1, s => (match stp T n mem nn NW s with
    | .inl s' => its k s'
    | .inr e => .inr e)
def Rc (s s' : aSt) : Prop := ∃ k, its T n mem nn NW k s = .inl s'
def Fl (s : aSt) (e : Nat × Nat) : Prop := ∃ k, its T n mem nn NW k s = .inr e
/-- .. from a result on -/
def Rr (r : aRs) (s' : aSt) : Prop := ∃ s, r = .inl s ∧ Rc T n mem nn NW s s'
def Fr (r : aRs) (e : Nat × Nat) : Prop := r = .inr e ∨ ∃ s, r = .inl s ∧ Fl T n mem nn NW s e
end
variable {T : Nat → Nat} {n mem nn : Nat} {NW : Nat → Nat} {s s1 s2 : aSt} {e : Nat × Nat} {r : aRs}
theorem Rc_0 : Rc T n mem nn NW s s := ⟨0, rfl⟩
theorem its_add : ∀ {k j : Nat} {s : aSt}, its T n mem nn NW k s = .inl s1 → its T n mem nn NW (k + j) s = its T n mem nn NW j s1 := by
  intro k
  induction k with
  | zero => intro j s h; cases h; rw [Nat.zero_add]
  | succ k ih =>
    intro j s h
    rw [show k + 1 + j = (k + j) + 1 by omega]
    have h : (match stp T n mem nn NW s with
      | .inl s' => its T n mem nn NW k s'
      | .inr e => .inr e) = .inl s1 := h
    show (match stp T n mem nn NW s with
      | .inl s' => its T n mem nn NW (k + j) s'
      | .inr e => .inr e) = its T n mem nn NW j s1
    cases hs : stp T n mem nn NW s with
    | inl s' => rw [hs] at h; exact ih h
    | inr e => rw [hs] at h; cases h
theorem Rc_t (a : Rc T n mem nn NW s s1) (b : Rc T n mem nn NW s1 s2) : Rc T n mem nn NW s s2 := by
  obtain ⟨k, hk⟩ := a
  obtain ⟨j, hj⟩ := b
  exact ⟨k + j, (its_add hk).trans hj⟩
theorem Fl_t (a : Rc T n mem nn NW s s1) (b : Fl T n mem nn NW s1 e) : Fl T n mem nn NW s e := by
  obtain ⟨k, hk⟩ := a
  obtain ⟨j, hj⟩ := b
  exact ⟨k + j, (its_add hk).trans hj⟩
theorem Rc_1 (h : stp T n mem nn NW s = .inl s1) : Rc T n mem nn NW s s1 := ⟨1, by
  show (match stp T n mem nn NW s with
    | .inl s' => its T n mem nn NW 0 s'
    | .inr e => .inr e) = .inl s1
  rw [h]
  rfl⟩
theorem Rc_r (h : stp T n mem nn NW s = r) (a : Rr T n mem nn NW r s1) : Rc T n mem nn NW s s1 := by
  obtain ⟨s2, h1, h2⟩ := a
  exact Rc_t (Rc_1 (h.trans h1)) h2
theorem Fl_1 (h : stp T n mem nn NW s = .inr e) : Fl T n mem nn NW s e := ⟨1, by
  show (match stp T n mem nn NW s with
    | .inl s' => its T n mem nn NW 0 s'
    | .inr e => .inr e) = .inr e
  rw [h]⟩
theorem Fl_r (h : stp T n mem nn NW s = r) (a : Fr T n mem nn NW r e) : Fl T n mem nn NW s e := by
  rcases a with h1 | ⟨s2, h1, h2⟩
  · exact Fl_1 (h.trans h1)
  · exact Fl_t (Rc_1 (h.trans h1)) h2
theorem Rr_t (a : Rr T n mem nn NW r s1) (b : Rc T n mem nn NW s1 s2) : Rr T n mem nn NW r s2 := by
  obtain ⟨s, h1, h2⟩ := a
  exact ⟨s, h1, Rc_t h2 b⟩
theorem Fr_t (a : Rr T n mem nn NW r s1) (b : Fl T n mem nn NW s1 e) : Fr T n mem nn NW r e := by
  obtain ⟨s, h1, h2⟩ := a
  exact Or.inr ⟨s, h1, Fl_t h2 b⟩
end XAU
