section XPX
abbrev cdL : Type := List (Nat × Int32)
/-- one step of a statute's program for one set: the stack (its top first) and the names; none where the stack is too short or too high -/
def px1 (sv : Int32) (q : Nat × Int32) (x : List Int32 × Int32) : Option (List Int32 × Int32) := match q.1, x with
  | 0, (σ, nm) => if σ.length < 64 then some (((sv >>> (q.2 &&& 31)) &&& Int32.ofInt 1) :: σ, nm) else none
  | 1, (σ, nm) => if σ.length < 64 then some (((nm >>> (q.2 &&& 31)) &&& Int32.ofInt 1) :: σ, nm) else none
  | 2, (a :: b :: σ, nm) => some ((b &&& a) :: σ, nm)
  | 3, (a :: b :: σ, nm) => some ((b ||| a) :: σ, nm)
  | 4, (σ, nm) => if σ.length < 64 then some (Int32.ofInt 0 :: σ, nm) else none
  | 5, (a :: b :: σ, nm) => some ((b + a * q.2) :: σ, nm)
  | 6, (a :: σ, nm) => some (bl (xe_c .ge a q.2) :: σ, nm)
  | 7, (a :: σ, nm) => some (σ, nm ||| (a <<< (q.2 &&& 31)))
  | _, _ => none
def px (sv : Int32) : cdL → List Int32 × Int32 → Option (List Int32 × Int32)
  | [], x => some x
  | q :: c, x => (px1 sv q x).bind (px sv c)
theorem px_app {sv : Int32} {c d : cdL} {x : List Int32 × Int32} : px sv (c ++ d) x = (px sv c x).bind (px sv d) := by
  induction c generalizing x with
  | nil => rfl
  | cons q c ih =>
    show (px1 sv q x).bind (px sv (c ++ d)) = ((px1 sv q x).bind (px sv c)).bind (px sv d)
    cases h : px1 sv q x with
    | none => rfl
    | some y => exact ih
/-- a piece of code that puts one value on any stack with so much room, and leaves the names -/
def pv (sv nm : Int32) (k : Nat) (c : cdL) (y : Int32) : Prop := ∀ σ : List Int32, σ.length + k ≤ 64 → px sv c (σ, nm) = some (y :: σ, nm)
theorem pv_le {sv nm y : Int32} {k j : Nat} {c : cdL} (h : pv sv nm k c y) (e : k ≤ j) : pv sv nm j c y := fun σ hs => h σ (by omega)
theorem pv_m {sv nm v : Int32} : pv sv nm 1 [(0, v)] ((sv >>> (v &&& 31)) &&& Int32.ofInt 1) := fun σ hs => by
  show (if σ.length < 64 then some (((sv >>> (v &&& 31)) &&& Int32.ofInt 1) :: σ, nm) else none).bind (px sv []) = _
  rw [if_pos (by omega)]
  rfl
theorem pv_n {sv nm v : Int32} : pv sv nm 1 [(1, v)] ((nm >>> (v &&& 31)) &&& Int32.ofInt 1) := fun σ hs => by
  show (if σ.length < 64 then some (((nm >>> (v &&& 31)) &&& Int32.ofInt 1) :: σ, nm) else none).bind (px sv []) = _
  rw [if_pos (by omega)]
  rfl
theorem pv_and {sv nm v y z : Int32} {k j : Nat} {c d : cdL} (a : pv sv nm k c y) (b : pv sv nm j d z) (e : j + 1 ≤ k) : pv sv nm k (c ++ (d ++ [(2, v)])) (y &&& z) := fun σ hs => by
  rw [px_app, a σ hs]
  show px sv (d ++ [(2, v)]) (y :: σ, nm) = _
  rw [px_app, b (y :: σ) (by show σ.length + 1 + j ≤ 64; omega)]
  rfl
theorem pv_or {sv nm v y z : Int32} {k j : Nat} {c d : cdL} (a : pv sv nm k c y) (b : pv sv nm j d z) (e : j + 1 ≤ k) : pv sv nm k (c ++ (d ++ [(3, v)])) (y ||| z) := fun σ hs => by
  rw [px_app, a σ hs]
  show px sv (d ++ [(3, v)]) (y :: σ, nm) = _
  rw [px_app, b (y :: σ) (by show σ.length + 1 + j ≤ 64; omega)]
  rfl
theorem pv_item {sv nm v y z : Int32} {k j : Nat} {c d : cdL} (a : pv sv nm k c y) (b : pv sv nm j d z) (e : j + 1 ≤ k) : pv sv nm k (c ++ (d ++ [(5, v)])) (y + z * v) := fun σ hs => by
  rw [px_app, a σ hs]
  show px sv (d ++ [(5, v)]) (y :: σ, nm) = _
  rw [px_app, b (y :: σ) (by show σ.length + 1 + j ≤ 64; omega)]
  rfl
theorem pv_begin {sv nm v : Int32} : pv sv nm 1 [(4, v)] (Int32.ofInt 0) := fun σ hs => by
  show (if σ.length < 64 then some (Int32.ofInt 0 :: σ, nm) else none).bind (px sv []) = _
  rw [if_pos (by omega)]
  rfl
theorem pv_quota {sv nm v y : Int32} {k : Nat} {c : cdL} (a : pv sv nm k c y) : pv sv nm k (c ++ [(6, v)]) (bl (xe_c .ge y v)) := fun σ hs => by
  rw [px_app, a σ hs]
  rfl
theorem bl_and {a b : Bool} : bl a &&& bl b = bl (a && b) := by cases a <;> cases b <;> rfl
theorem bl_or {a b : Bool} : bl a ||| bl b = bl (a || b) := by cases a <;> cases b <;> rfl
theorem bl_nI {a : Bool} : bl a = nI a.toNat := by cases a <;> rfl
theorem bl_mul {a : Bool} {b w : Int32} : b + bl a * w = if a = true then b + w else b := by
  cases a with
  | true => show b + 1 * w = b + w; rw [Int32.one_mul]
  | false => show b + 0 * w = b; rw [Int32.zero_mul, Int32.add_zero]
/-- the names' values as bits -/
def nmo (nn : Nat) (NV : Nat → Bool) (nm : Int32) : Prop := ∃ a : Nat, a < 2 ^ nn ∧ nm = nI a ∧ ∀ k, k < nn → a.testBit k = NV k
theorem nmo_b {nn k : Nat} {NV : Nat → Bool} {nm : Int32} (h : nmo nn NV nm) (n16 : nn ≤ 16) (hk : k < nn) : ((nm >>> (nI k &&& 31)) &&& Int32.ofInt 1) = bl (NV k) := by
  obtain ⟨a, h1, rfl, h3⟩ := h
  have : 2 ^ nn ≤ 2 ^ 16 := Nat.pow_le_pow_right (by decide) n16
  rw [nI_b0 (by omega) (by omega), h3 k hk, bl_nI]
def upB (NV : Nat → Bool) (nn : Nat) (y : Bool) : Nat → Bool := fun k => if k = nn then y else NV k
theorem nmo_up {nn : Nat} {NV : Nat → Bool} {nm : Int32} {y : Bool} (h : nmo nn NV nm) (n16 : nn < 16) : nmo (nn + 1) (upB NV nn y) (nm ||| (bl y <<< (nI nn &&& 31))) := by
  obtain ⟨a, h1, rfl, h3⟩ := h
  have hp : 2 ^ (nn + 1) = 2 * 2 ^ nn := by rw [Nat.pow_succ]; omega
  cases y with
  | false =>
    refine ⟨a, by omega, ?_, fun k hk => ?_⟩
    · have e : (bl false <<< (nI nn &&& 31) : Int32) = nI 0 := by
        have hh : nn = 0 ∨ nn = 1 ∨ nn = 2 ∨ nn = 3 ∨ nn = 4 ∨ nn = 5 ∨ nn = 6 ∨ nn = 7 ∨ nn = 8 ∨ nn = 9 ∨ nn = 10 ∨ nn = 11 ∨ nn = 12 ∨ nn = 13 ∨ nn = 14 ∨ nn = 15 := by omega
        rcases hh with rfl | rfl | rfl | rfl | rfl | rfl | rfl | rfl | rfl | rfl | rfl | rfl | rfl | rfl | rfl | rfl <;> decide
      rw [e, nI_or, Nat.or_zero]
    · unfold upB
      by_cases e : k = nn
      · rw [if_pos e, e]
        exact Nat.testBit_lt_two_pow h1
      · rw [if_neg e]
        exact h3 k (by omega)
  | true =>
    refine ⟨a ||| 2 ^ nn, Nat.or_lt_two_pow (by omega) (by have := Nat.two_pow_pos nn; omega), ?_, fun k hk => ?_⟩
    · have e : (bl true <<< (nI nn &&& 31) : Int32) = nI (2 ^ nn) := by
        have hh : nn = 0 ∨ nn = 1 ∨ nn = 2 ∨ nn = 3 ∨ nn = 4 ∨ nn = 5 ∨ nn = 6 ∨ nn = 7 ∨ nn = 8 ∨ nn = 9 ∨ nn = 10 ∨ nn = 11 ∨ nn = 12 ∨ nn = 13 ∨ nn = 14 ∨ nn = 15 := by omega
        rcases hh with rfl | rfl | rfl | rfl | rfl | rfl | rfl | rfl | rfl | rfl | rfl | rfl | rfl | rfl | rfl | rfl <;> decide
      rw [e, nI_or]
    · rw [Nat.testBit_or, Nat.testBit_two_pow]
      unfold upB
      by_cases e : k = nn
      · rw [if_pos e, e]
        simp
      · rw [if_neg e, h3 k (by omega)]
        rw [show decide (nn = k) = false from decide_eq_false (fun z => e z.symm), Bool.or_false]
end XPX
