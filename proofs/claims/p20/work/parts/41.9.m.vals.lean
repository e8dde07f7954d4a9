section XVL
variable (T : Nat → Nat) (n nn : Nat) (NW : Nat → Nat) (sv : Nat) (NV : Nat → Bool)
/-- what a frame holds of one set: or, and; sum, weight, needed -/
abbrev vF : Type := Bool × Bool × Int32 × Int32 × Int32
def vR : vF := (false, true, 0, 1, 0)
def vL (x : Int32) : vF := (false, true, 0, 1, x)
/-- the first name like it -/
def nmi (w : Nat) : Nat := ((List.range nn).find? (fun k => Nat.beq (NW k) w)).getD 0
def vw (x : Int32) (ds : List vF) : List vF := match ds with
  | (o, a, su, _, nd) :: r => (o, a, su, x, nd) :: r
  | [] => []
/-- a ONE begins -/
def vbo (p : Nat) (ds : List vF) (one : Bool) : List vF × Bool := if tkk T n p = 3 then (vL (nI (tkn T n p)) :: ds, one) else if tkk T n p = 40 then (vR :: ds, one) else if lone T n p = true then (ds, sv.testBit (T (tks T n p) - 97)) else (ds, NV (nmi nn NW (tkw T n p)))
/-- an item that begins with a number -/
def vbi (p : Nat) (ds : List vF) (one : Bool) : List vF × Bool := if tkk T n (tke T n p) = 42 then vbo T n nn NW sv NV (tke T n (tke T n p)) (vw (nI (tkn T n p)) ds) one else (vL (nI (tkn T n p)) :: vw 1 ds, one)
def vbg (p : Nat) (fs : List Nat) (ds : List vF) (one : Bool) : List vF × Bool := if fs.head? = some 2 ∧ tkk T n p = 3 then vbi T n nn NW sv NV p ds one else vbo T n nn NW sv NV p ds one
/-- a ONE is through -/
def ven (p : Nat) (fs : List Nat) (ds : List vF) (one : Bool) : List vF × Bool := match ds with
  | [] => ([], one)
  | (o, a, su, w, nd) :: r => if fs.head? = some 2 then (if tkk T n p = 93 then (r, xe_c .ge (if one = true then su + w else su) nd) else ((o, a, if one = true then su + w else su, 1, nd) :: r, one)) else if ky T n p 2 = true then ((o, a && one, su, w, nd) :: r, one) else if ky T n p 3 = true then ((o || (a && one), true, su, w, nd) :: r, one) else (r, o || (a && one))
/-- the data's step beside the automaton's -/
def vdt (s : aSt) (x : List vF × Bool) : List vF × Bool := if s.2.2.2 = [] then x else if s.1 = 1 then vbg T n nn NW sv NV s.2.1 s.2.2.2 x.1 x.2 else ven T n s.2.1 s.2.2.2 x.1 x.2
variable (mem : Nat)
def vis : Nat → aSt → List vF × Bool → List vF × Bool
  | 0, _, x => x
  | k + 1, s, x => (match stp T n mem nn NW s with
    | .inl s' => vis k s' (vdt T n nn NW sv NV s x)
    | .inr _ => x)
/-- the automaton and its data come from one state to another -/
def Rv (s : aSt) (x : List vF × Bool) (s' : aSt) (x' : List vF × Bool) : Prop := ∃ k, its T n mem nn NW k s = .inl s' ∧ vis T n nn NW sv NV mem k s x = x'
variable {T n nn NW sv NV mem}
theorem Rv_0 {s : aSt} {x : List vF × Bool} : Rv T n nn NW sv NV mem s x s x := ⟨0, rfl, rfl⟩
theorem Rv_c {s s' : aSt} {x x' : List vF × Bool} (a : Rv T n nn NW sv NV mem s x s' x') : Rc T n mem nn NW s s' := a.elim fun k e => ⟨k, e.1⟩
theorem vis_add : ∀ {k j : Nat} {s s1 : aSt} {x : List vF × Bool}, its T n mem nn NW k s = .inl s1 → vis T n nn NW sv NV mem (k + j) s x = vis T n nn NW sv NV mem j s1 (vis T n nn NW sv NV mem k s x) := by
  intro k
  induction k with
  | zero =>
    intro j s s1 x e
    cases e
    rw [Nat.zero_add]
    rfl
  | succ k ih =>
    intro j s s1 x e
    rw [Nat.succ_add]
    unfold its at e
    have u : ∀ m, vis T n nn NW sv NV mem (m + 1) s x = (match stp T n mem nn NW s with
      | .inl s' => vis T n nn NW sv NV mem m s' (vdt T n nn NW sv NV s x)
      | .inr _ => x) := fun _ => rfl
    rw [show (k + j).succ = (k + j) + 1 from rfl, u (k + j), u k]
    cases hs : stp T n mem nn NW s with
    | inl s' =>
      rw [hs] at e
      exact ih e
    | inr e' => rw [hs] at e; cases e
theorem Rv_t {s s1 s2 : aSt} {x x1 x2 : List vF × Bool} (a : Rv T n nn NW sv NV mem s x s1 x1) (b : Rv T n nn NW sv NV mem s1 x1 s2 x2) : Rv T n nn NW sv NV mem s x s2 x2 := by
  obtain ⟨k, a1, a2⟩ := a
  obtain ⟨j, b1, b2⟩ := b
  exact ⟨k + j, (its_add a1).trans b1, by rw [vis_add a1, a2]; exact b2⟩
theorem Rv_1 {s s1 : aSt} {x : List vF × Bool} (h : stp T n mem nn NW s = .inl s1) : Rv T n nn NW sv NV mem s x s1 (vdt T n nn NW sv NV s x) := ⟨1, by
  unfold its
  rw [h]
  rfl, by
  unfold vis
  rw [h]
  rfl⟩
end XVL
