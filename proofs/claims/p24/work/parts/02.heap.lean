section
section XH
/-- ABSTRACT HEAPS: the cells' shapes; what they hold: ints, longs, references (by the numbers of the cells). A shape (0, ci): an object of vwCl's row ci; (1, n) int[n], (2, n) byte[n], (3, n) boolean[n], (4, n) long[n], (5, n) Statute[n] -/
abbrev xh_H : Type := List (Nat × Nat) × List (List Int32) × List (List Int64) × List (List (Option Nat))
/-- rows that go on for ever: behind their end lies z -/
def xg {α : Type} (z : α) (L : List (List α)) (c k : Nat) : α := (L.getD c []).getD k z
def xsr {α : Type} (z : α) : List α → Nat → α → List α
  | [], 0, x => [x]
  | [], k + 1, x => z :: xsr z [] k x
  | _ :: t, 0, x => x :: t
  | a :: t, k + 1, x => a :: xsr z t k x
theorem xsr_s {α : Type} (z : α) (x : α) : ∀ (k : Nat) (l : List α), (xsr z l k x).getD k z = x := by
  intro k
  induction k with
  | zero => intro l; cases l <;> rfl
  | succ k ih =>
    intro l
    cases l with
    | nil => show (xsr z [] k x).getD k z = x; exact ih []
    | cons a t => show (xsr z t k x).getD k z = x; exact ih t
theorem xsr_o {α : Type} (z : α) (x : α) : ∀ (k j : Nat) (l : List α), j ≠ k → (xsr z l k x).getD j z = l.getD j z := by
  intro k
  induction k with
  | zero =>
    intro j l h
    cases j with
    | zero => exact absurd rfl h
    | succ j => cases l <;> rfl
  | succ k ih =>
    intro j l h
    cases l with
    | nil =>
      cases j with
      | zero => rfl
      | succ j => exact (ih j [] (fun e => h (by rw [e]))).trans rfl
    | cons a t =>
      cases j with
      | zero => rfl
      | succ j => exact ih j t (fun e => h (by rw [e]))
def xh_up {α : Type} (z : α) (f : List (List α)) (c k : Nat) (x : α) : List (List α) := xsr [] f c (xsr z (f.getD c []) k x)
def xh_rs {α : Type} (f : List (List α)) (n : Nat) : List (List α) := xsr [] f n []
theorem xh_up_o {α : Type} {z : α} {f : List (List α)} {c k c' : Nat} {x : α} (h : c' ≠ c) : xg z (xh_up z f c k x) c' = xg z f c' := by
  funext k'
  unfold xg xh_up
  rw [xsr_o [] _ c c' f h]
theorem xh_up_k {α : Type} {z : α} {f : List (List α)} {c k k' : Nat} {x : α} (h : k' ≠ k) : xg z (xh_up z f c k x) c k' = xg z f c k' := by
  unfold xg xh_up
  rw [xsr_s, xsr_o z x k k' _ h]
theorem xh_up_s {α : Type} {z : α} {f : List (List α)} {c k : Nat} {x : α} : xg z (xh_up z f c k x) c k = x := by
  unfold xg xh_up
  rw [xsr_s, xsr_s]
theorem xh_rs_o {α : Type} {z : α} {f : List (List α)} {n c : Nat} (h : c ≠ n) : xg z (xh_rs f n) c = xg z f c := by
  funext k
  unfold xg xh_rs
  rw [xsr_o [] _ n c f h]
theorem xh_rs_s {α : Type} {z : α} {f : List (List α)} {n : Nat} : xg z (xh_rs f n) n = fun _ => z := by
  funext k
  unfold xg xh_rs
  rw [xsr_s]
  rfl
def xh_tl : List (Nat → FieldType) := [tyX0, tyX1, tyX2, tyX3, tyX4, tyX5, tyX6, tyX7, tyX8, tyX9, tyX10]
def xh_ty (ci k : Nat) : FieldType := (xh_tl.getD ci tyX0) k
def xh_N (ci : Nat) : Nat := ([7, 4, 13, 4, 10, 16, 7, 2, 2, 12, 64] : List Nat).getD ci 0
/-- what a field holds, in the machine's words and in ours -/
def xh_fv (ad : Nat → Nat) (h : xh_H) (c : Nat) (ty : FieldType) (k : Nat) : Value := match ty with
  | .long => .long (xg 0 h.2.2.1 c k)
  | .object _ => va_rf ((xg none h.2.2.2 c k).map ad)
  | .array _ => va_rf ((xg none h.2.2.2 c k).map ad)
  | _ => .int (xg 0 h.2.1 c k)
def xh_get (h : xh_H) (c : Nat) (ty : FieldType) (k : Nat) : Value := match ty with
  | .long => .long (xg 0 h.2.2.1 c k)
  | .object _ => va_rf (xg none h.2.2.2 c k)
  | .array _ => va_rf (xg none h.2.2.2 c k)
  | _ => .int (xg 0 h.2.1 c k)
/-- our values in the machine's words: a cell by its address; a float stands for a thing that is not of ours (0: the script; the others: String constants) -/
def xh_v (ad sp : Nat → Nat) : Value → Value
  | .ref k => .ref (ad k)
  | .float u => .ref (sp u.toNat)
  | v => v
theorem xh_v_rf (ad sp : Nat → Nat) (r : Option Nat) : xh_v ad sp (va_rf r) = va_rf (r.map ad) := by cases r <;> rfl
theorem xh_v_get (ad sp : Nat → Nat) (h : xh_H) (c : Nat) (ty : FieldType) (k : Nat) : xh_v ad sp (xh_get h c ty k) = xh_fv ad h c ty k := by
  cases ty <;> first | rfl | exact xh_v_rf ad sp _
theorem xh_v_cat (ad sp : Nat → Nat) (v : Value) : (xh_v ad sp v).category = v.category := by cases v <;> rfl
def xh_e (ad : Nat → Nat) (cy : Nat → ClassId) (h : xh_H) (c : Nat) (sh : Nat × Nat) : va_E := match sh.1 with
  | 0 => .inr (sh.2, (List.range (xh_N sh.2)).map (fun k => xh_fv ad h c (xh_ty sh.2 k) k))
  | 4 => .inl (cy 4, sh.2, .inr (.inl (xg 0 h.2.2.1 c)))
  | 5 => .inl (cy 5, sh.2, .inr (.inr (.inr (.inr (fun j => (xg none h.2.2.2 c j).map ad)))))
  | k => .inl (cy k, sh.2, .inl (xg 0 h.2.1 c))
def xh_ws (ad : Nat → Nat) (cy : Nat → ClassId) (h : xh_H) : va_W := h.1.mapIdx (fun c sh => (ad c, xh_e ad cy h c sh))
theorem xh_ws_get (ad : Nat → Nat) (cy : Nat → ClassId) (h : xh_H) (c : Nat) : (xh_ws ad cy h)[c]? = (h.1[c]?).map (fun sh => (ad c, xh_e ad cy h c sh)) := by
  unfold xh_ws
  rw [List.getElem?_mapIdx]
theorem xh_ws_at {ad : Nat → Nat} {cy : Nat → ClassId} {h : xh_H} {c : Nat} {sh : Nat × Nat} (hc : h.1[c]? = some sh) : (xh_ws ad cy h)[c]? = some (ad c, xh_e ad cy h c sh) := by
  rw [xh_ws_get, hc]; rfl
theorem xh_ws_len (ad : Nat → Nat) (cy : Nat → ClassId) (h : xh_H) : (xh_ws ad cy h).length = h.1.length := by simp [xh_ws]
theorem xh_e_congr {ad : Nat → Nat} {cy : Nat → ClassId} {h h' : xh_H} {c : Nat} {sh : Nat × Nat} (hi : xg 0 h'.2.1 c = xg 0 h.2.1 c) (hl : xg 0 h'.2.2.1 c = xg 0 h.2.2.1 c) (hr : xg none h'.2.2.2 c = xg none h.2.2.2 c) : xh_e ad cy h' c sh = xh_e ad cy h c sh := by
  have hf : ∀ ty k, xh_fv ad h' c ty k = xh_fv ad h c ty k := by intro ty k; cases ty <;> simp [xh_fv, hi, hl, hr]
  unfold xh_e
  split <;> simp [hf, hi, hl, hr]
/-- one cell is written -/
theorem xh_ws_set {ad : Nat → Nat} {cy : Nat → ClassId} {h h' : xh_H} {c : Nat} {sh : Nat × Nat} (h1 : h'.1 = h.1) (ho : ∀ c', c' ≠ c → xg 0 h'.2.1 c' = xg 0 h.2.1 c' ∧ xg 0 h'.2.2.1 c' = xg 0 h.2.2.1 c' ∧ xg none h'.2.2.2 c' = xg none h.2.2.2 c') (hc : h.1[c]? = some sh) : (xh_ws ad cy h).set c (ad c, xh_e ad cy h' c sh) = xh_ws ad cy h' := by
  apply List.ext_getElem?
  intro j
  rw [List.getElem?_set, xh_ws_get, xh_ws_get, h1]
  by_cases hj : c = j
  · subst hj
    have hl : c < (xh_ws ad cy h).length := by rw [xh_ws_len]; exact (List.getElem?_eq_some_iff.mp hc).1
    rw [if_pos rfl, if_pos hl, hc]; rfl
  · rw [if_neg hj]
    cases hq : h.1[j]? with
    | none => rfl
    | some q =>
      obtain ⟨a, b, d⟩ := ho j (fun z => hj z.symm)
      simp [xh_e_congr a b d]
/-- one cell is made -/
theorem xh_ws_new {ad : Nat → Nat} {cy : Nat → ClassId} {h : xh_H} {sh : Nat × Nat} {h' : xh_H} (h1 : h'.1 = h.1 ++ [sh]) (ho : ∀ c', c' ≠ h.1.length → xg 0 h'.2.1 c' = xg 0 h.2.1 c' ∧ xg 0 h'.2.2.1 c' = xg 0 h.2.2.1 c' ∧ xg none h'.2.2.2 c' = xg none h.2.2.2 c') : xh_ws ad cy h' = xh_ws ad cy h ++ [(ad h.1.length, xh_e ad cy h' h.1.length sh)] := by
  apply List.ext_getElem?
  intro j
  rw [xh_ws_get, h1]
  by_cases hj : j < h.1.length
  · rw [List.getElem?_append_left hj, List.getElem?_append_left (by rw [xh_ws_len]; exact hj), xh_ws_get]
    cases hq : h.1[j]? with
    | none => rfl
    | some q =>
      obtain ⟨a, b, d⟩ := ho j (by omega)
      simp [xh_e_congr a b d]
  · rw [List.getElem?_append_right (by omega), List.getElem?_append_right (by rw [xh_ws_len]; omega), xh_ws_len]
    by_cases hk : j = h.1.length
    · subst hk; simp
    · rw [List.getElem?_eq_none (by simp; omega), List.getElem?_eq_none (by simp; omega)]; rfl
theorem xh_fs_set {f g : Nat → Value} {N k : Nat} {v : Value} (hk : g k = v) (ho : ∀ j, j ≠ k → g j = f j) : ((List.range N).map f).set k v = (List.range N).map g := by
  apply List.ext_getElem?
  intro j
  rw [List.getElem?_set]
  by_cases hj : k = j
  · subst hj
    by_cases hN : k < N
    · simp [hN, hk]
    · simp [hN]
  · rw [if_neg hj]
    by_cases hN : j < N
    · simp [hN, ho j (fun z => hj z.symm)]
    · simp [hN]
theorem xh_fs_get {f : Nat → Value} {N k : Nat} (hk : k < N) : ((List.range N).map f)[k]? = some (f k) := by simp [hk]
/-- the machine's state, in our words: the cells stand at their addresses, the next cell comes at the heap's end -/
def xh_at (D : va_G) (cy : Nat → ClassId) (ad : Nat → Nat) (A : Nat → Prop) (h : xh_H) (H : Heap) : Prop :=
  va_P D vwCl (xh_ws ad cy h) H ∧ va_D A (xh_ws ad cy h) ∧ ∀ j : Nat, ad (h.1.length + j) = H.size + j
def xh_ts (cy : Nat → ClassId) : List (ClassId × FieldType) := [(cy 1, .int), (cy 2, .byte), (cy 3, .boolean), (cy 4, .long), (cy 5, .object RX7)]
/-! the locals, by their numbers -/
def xl_get : List (Nat × Value) → Nat → Option Value
  | [], _ => none
  | q :: t, i => cond (Nat.beq q.1 i) (some q.2) (xl_get t i)
theorem xl_get_mem {lv : List (Nat × Value)} {i : Nat} {v : Value} (h : xl_get lv i = some v) : (i, v) ∈ lv := by
  induction lv with
  | nil => cases h
  | cons q t ih =>
    unfold xl_get at h
    cases hb : Nat.beq q.1 i with
    | true =>
      rw [hb] at h
      have h1 := Nat.eq_of_beq_eq_true hb
      cases h
      subst h1
      exact List.mem_cons_self
    | false => rw [hb] at h; exact List.mem_cons_of_mem _ (ih h)
def xl_1 (lv : List (Nat × Value)) (i : Nat) (v : Value) : List (Nat × Value) := (i, v) :: lv.filter (fun q => !(q.1 == i) && !(q.1 + 1 == i && q.2.category == 2))
def xl_2 (lv : List (Nat × Value)) (i : Nat) (v : Value) : List (Nat × Value) := (i, v) :: lv.filter (fun q => !(q.1 == i) && (!(q.1 == i + 1) && !(q.1 + 1 == i && q.2.category == 2)))
def xl_m (ad sp : Nat → Nat) (lv : List (Nat × Value)) : List (Nat × Value) := lv.map (fun q => (q.1, xh_v ad sp q.2))
theorem xl_m1 (ad sp : Nat → Nat) (lv : List (Nat × Value)) (i : Nat) (v : Value) : (i, xh_v ad sp v) :: (xl_m ad sp lv).filter (fun q => !(q.1 == i) && !(q.1 + 1 == i && q.2.category == 2)) = xl_m ad sp (xl_1 lv i v) := by
  simp [xl_m, xl_1, List.filter_map, Function.comp_def, xh_v_cat]
theorem xl_m2 (ad sp : Nat → Nat) (lv : List (Nat × Value)) (i : Nat) (v : Value) : (i, xh_v ad sp v) :: (xl_m ad sp lv).filter (fun q => !(q.1 == i) && (!(q.1 == i + 1) && !(q.1 + 1 == i && q.2.category == 2))) = xl_m ad sp (xl_2 lv i v) := by
  simp [xl_m, xl_2, List.filter_map, Function.comp_def, xh_v_cat]
theorem xl_at {ad sp : Nat → Nat} {ls : Array Slot} {nL : Nat} {lv : List (Nat × Value)} (h : lv_has ls nL (xl_m ad sp lv)) {i : Nat} {v : Value} (hv : xl_get lv i = some v) : ls[i]? = some (.val (xh_v ad sp v)) :=
  h.2.2 (i, xh_v ad sp v) (List.mem_map.mpr ⟨(i, v), xl_get_mem hv, rfl⟩)
theorem xl_ix {ad sp : Nat → Nat} {lv : List (Nat × Value)} {i : Nat} {v : Value} (hv : xl_get lv i = some v) : ∃ k : Nat, (xl_m ad sp lv)[k]? = some (i, xh_v ad sp v) :=
  List.getElem?_of_mem (List.mem_map.mpr ⟨(i, v), xl_get_mem hv, rfl⟩)
/-! what lies on the stack -/
def xp_i {α : Type} (st : List Value) (f : Int32 → List Value → Option α) : Option α := match st with
  | .int x :: r => f x r
  | _ => none
def xp_ii {α : Type} (st : List Value) (f : Int32 → Int32 → List Value → Option α) : Option α := match st with
  | .int y :: .int x :: r => f y x r
  | _ => none
def xp_l {α : Type} (st : List Value) (f : Int64 → List Value → Option α) : Option α := match st with
  | .long x :: r => f x r
  | _ => none
def xp_ll {α : Type} (st : List Value) (f : Int64 → Int64 → List Value → Option α) : Option α := match st with
  | .long y :: .long x :: r => f y x r
  | _ => none
def xp_il {α : Type} (st : List Value) (f : Int32 → Int64 → List Value → Option α) : Option α := match st with
  | .int y :: .long x :: r => f y x r
  | _ => none
def xp_r {α : Type} (st : List Value) (f : Nat → List Value → Option α) : Option α := match st with
  | .ref a :: r => f a r
  | _ => none
def xp_ir {α : Type} (st : List Value) (f : Int32 → Nat → List Value → Option α) : Option α := match st with
  | .int i :: .ref a :: r => f i a r
  | _ => none
def xp_iir {α : Type} (st : List Value) (f : Int32 → Int32 → Nat → List Value → Option α) : Option α := match st with
  | .int x :: .int i :: .ref a :: r => f x i a r
  | _ => none
def xp_lir {α : Type} (st : List Value) (f : Int64 → Int32 → Nat → List Value → Option α) : Option α := match st with
  | .long x :: .int i :: .ref a :: r => f x i a r
  | _ => none
def xp_rir {α : Type} (st : List Value) (f : Nat → Int32 → Nat → List Value → Option α) : Option α := match st with
  | .ref x :: .int i :: .ref a :: r => f x i a r
  | _ => none
def xp_vr {α : Type} (st : List Value) (f : Value → Nat → List Value → Option α) : Option α := match st with
  | v :: .ref a :: r => f v a r
  | _ => none
theorem xp_i_v {α : Type} {st : List Value} {f : Int32 → List Value → Option α} {o : α} (h : xp_i st f = some o) : ∃ x r, st = .int x :: r ∧ f x r = some o := by
  unfold xp_i at h; split at h
  · exact ⟨_, _, rfl, h⟩
  · cases h
theorem xp_ii_v {α : Type} {st : List Value} {f : Int32 → Int32 → List Value → Option α} {o : α} (h : xp_ii st f = some o) : ∃ y x r, st = .int y :: .int x :: r ∧ f y x r = some o := by
  unfold xp_ii at h; split at h
  · exact ⟨_, _, _, rfl, h⟩
  · cases h
theorem xp_l_v {α : Type} {st : List Value} {f : Int64 → List Value → Option α} {o : α} (h : xp_l st f = some o) : ∃ x r, st = .long x :: r ∧ f x r = some o := by
  unfold xp_l at h; split at h
  · exact ⟨_, _, rfl, h⟩
  · cases h
theorem xp_ll_v {α : Type} {st : List Value} {f : Int64 → Int64 → List Value → Option α} {o : α} (h : xp_ll st f = some o) : ∃ y x r, st = .long y :: .long x :: r ∧ f y x r = some o := by
  unfold xp_ll at h; split at h
  · exact ⟨_, _, _, rfl, h⟩
  · cases h
theorem xp_il_v {α : Type} {st : List Value} {f : Int32 → Int64 → List Value → Option α} {o : α} (h : xp_il st f = some o) : ∃ y x r, st = .int y :: .long x :: r ∧ f y x r = some o := by
  unfold xp_il at h; split at h
  · exact ⟨_, _, _, rfl, h⟩
  · cases h
theorem xp_r_v {α : Type} {st : List Value} {f : Nat → List Value → Option α} {o : α} (h : xp_r st f = some o) : ∃ a r, st = .ref a :: r ∧ f a r = some o := by
  unfold xp_r at h; split at h
  · exact ⟨_, _, rfl, h⟩
  · cases h
theorem xp_ir_v {α : Type} {st : List Value} {f : Int32 → Nat → List Value → Option α} {o : α} (h : xp_ir st f = some o) : ∃ i a r, st = .int i :: .ref a :: r ∧ f i a r = some o := by
  unfold xp_ir at h; split at h
  · exact ⟨_, _, _, rfl, h⟩
  · cases h
theorem xp_iir_v {α : Type} {st : List Value} {f : Int32 → Int32 → Nat → List Value → Option α} {o : α} (h : xp_iir st f = some o) : ∃ x i a r, st = .int x :: .int i :: .ref a :: r ∧ f x i a r = some o := by
  unfold xp_iir at h; split at h
  · exact ⟨_, _, _, _, rfl, h⟩
  · cases h
theorem xp_lir_v {α : Type} {st : List Value} {f : Int64 → Int32 → Nat → List Value → Option α} {o : α} (h : xp_lir st f = some o) : ∃ x i a r, st = .long x :: .int i :: .ref a :: r ∧ f x i a r = some o := by
  unfold xp_lir at h; split at h
  · exact ⟨_, _, _, _, rfl, h⟩
  · cases h
theorem xp_rir_v {α : Type} {st : List Value} {f : Nat → Int32 → Nat → List Value → Option α} {o : α} (h : xp_rir st f = some o) : ∃ x i a r, st = .ref x :: .int i :: .ref a :: r ∧ f x i a r = some o := by
  unfold xp_rir at h; split at h
  · exact ⟨_, _, _, _, rfl, h⟩
  · cases h
theorem xp_vr_v {α : Type} {st : List Value} {f : Value → Nat → List Value → Option α} {o : α} (h : xp_vr st f = some o) : ∃ v a r, st = v :: .ref a :: r ∧ f v a r = some o := by
  unfold xp_vr at h; split at h
  · exact ⟨_, _, _, rfl, h⟩
  · cases h
end XH
end
section
section XE
/-- a row of a method's code: the instruction, its length, two numbers that its operand stands for, and where its word lies -/
abbrev xr_R : Type := Instr × Nat × Nat × Nat × Nat × Nat
/-- a frame: where it is, its locals, its stack, the heap, how many cells and slots were made -/
abbrev xs_S : Type := Nat × List (Nat × Value) × List Value × xh_H × Nat × Nat
def xv_k (k : Nat) (v : Value) : Bool := match v with
  | .int _ => Nat.beq k 0
  | .long _ => Nat.beq k 1
  | .ref _ => Nat.beq k 2
  | .null => Nat.beq k 2
  | .float _ => Nat.beq k 2
  | _ => false
def xe_ld (k i len pc : Nat) (lv : List (Nat × Value)) (st : List Value) (h : xh_H) (c s : Nat) : Option xs_S := match xl_get lv i with
  | some v => cond (xv_k k v) (some (pc + len, lv, v :: st, h, c, s)) none
  | none => none
def xe_st1 (k i len pc nL : Nat) (lv : List (Nat × Value)) (st : List Value) (h : xh_H) (c s : Nat) : Option xs_S := match st with
  | v :: r => cond (xv_k k v && Nat.ble (i + 1) nL) (some (pc + len, xl_1 lv i v, r, h, c, s)) none
  | [] => none
def xe_st2 (i len pc nL : Nat) (lv : List (Nat × Value)) (st : List Value) (h : xh_H) (c s : Nat) : Option xs_S := match st with
  | v :: r => cond (xv_k 1 v && Nat.ble (i + 2) nL) (some (pc + len, xl_2 lv i v, r, h, c, s)) none
  | [] => none
def xe_c (k : ClassFile.Cond) (x y : Int32) : Bool := match k with
  | .eq => decide (x = y)
  | .ne => !decide (x = y)
  | .lt => decide (x < y)
  | .ge => decide (y ≤ x)
  | .gt => decide (y < x)
  | .le => decide (x ≤ y)
def xh_ui (h : xh_H) (c k : Nat) (x : Int32) : xh_H := (h.1, xh_up 0 h.2.1 c k x, h.2.2.1, h.2.2.2)
def xh_ul (h : xh_H) (c k : Nat) (x : Int64) : xh_H := (h.1, h.2.1, xh_up 0 h.2.2.1 c k x, h.2.2.2)
def xh_ur (h : xh_H) (c k : Nat) (x : Option Nat) : xh_H := (h.1, h.2.1, h.2.2.1, xh_up none h.2.2.2 c k x)
def xh_nw (h : xh_H) (sh : Nat × Nat) : xh_H := (h.1 ++ [sh], xh_rs h.2.1 h.1.length, xh_rs h.2.2.1 h.1.length, xh_rs h.2.2.2 h.1.length)
/-- a field is written -/
def xe_put (h : xh_H) (c : Nat) (ty : FieldType) (k : Nat) (v : Value) : Option xh_H := match ty with
  | .int => (match v with
    | .int x => some (xh_ui h c k x)
    | _ => none)
  | .boolean => (match v with
    | .int x => cond (decide (x = 0) || decide (x = 1)) (some (xh_ui h c k x)) none
    | _ => none)
  | .long => (match v with
    | .long x => some (xh_ul h c k x)
    | _ => none)
  | .object _ => (match v with
    | .ref q => some (xh_ur h c k (some q))
    | _ => none)
  | .array _ => (match v with
    | .ref q => some (xh_ur h c k (some q))
    | _ => none)
  | _ => none
def xe_in (i : Int32) (n : Nat) : Bool := !decide (i < 0) && Nat.ble (i.toNatClampNeg + 1) n
def xa_k (t : ArrayType) : Nat := match t with
  | .int => 1
  | .byte => 2
  | .boolean => 3
  | .long => 4
  | _ => 9
/-- ONE INSTRUCTION (no call, no return) -/
def xe_1 (nL : Nat) (r : xr_R) (pc : Nat) (lv : List (Nat × Value)) (st : List Value) (h : xh_H) (c s : Nat) : Option xs_S := match r.1 with
  | .iconst n => some (pc + 1, lv, .int (Int32.ofInt n) :: st, h, c, s)
  | .bipush n => some (pc + 2, lv, .int (Int8.ofInt n).toInt32 :: st, h, c, s)
  | .sipush n => some (pc + 3, lv, .int (Int16.ofInt n).toInt32 :: st, h, c, s)
  | .lconst n => some (pc + 1, lv, .long (Int64.ofNat (n : Nat)) :: st, h, c, s)
  | .ldc _ => (match r.2.2.2.1 with
    | 0 => some (pc + 2, lv, .int (Int32.ofNat r.2.2.1) :: st, h, c, s)
    | _ => some (pc + 2, lv, .float (UInt32.ofNat r.2.2.1) :: st, h, c, s))
  | .ldc_w _ => some (pc + 3, lv, .int (Int32.ofNat r.2.2.1) :: st, h, c, s)
  | .ldc2_w _ => some (pc + 3, lv, .long (Int64.ofNat r.2.2.1) :: st, h, c, s)
  | .iload_n k => xe_ld 0 k 1 pc lv st h c s
  | .iload k => xe_ld 0 k 2 pc lv st h c s
  | .lload_n k => xe_ld 1 k 1 pc lv st h c s
  | .lload k => xe_ld 1 k 2 pc lv st h c s
  | .aload_n k => xe_ld 2 k 1 pc lv st h c s
  | .aload k => xe_ld 2 k 2 pc lv st h c s
  | .istore_n k => xe_st1 0 k 1 pc nL lv st h c s
  | .istore k => xe_st1 0 k 2 pc nL lv st h c s
  | .astore_n k => xe_st1 2 k 1 pc nL lv st h c s
  | .astore k => xe_st1 2 k 2 pc nL lv st h c s
  | .lstore_n k => xe_st2 k 1 pc nL lv st h c s
  | .lstore k => xe_st2 k 2 pc nL lv st h c s
  | .iinc i n => (match xl_get lv i with
    | some (.int x) => cond (Nat.ble (i + 1) nL) (some (pc + 3, xl_1 lv i (.int (x + Int32.ofInt n)), st, h, c, s)) none
    | _ => none)
  | .iadd => xp_ii st (fun y x r => some (pc + 1, lv, .int (x + y) :: r, h, c, s))
  | .isub => xp_ii st (fun y x r => some (pc + 1, lv, .int (x - y) :: r, h, c, s))
  | .imul => xp_ii st (fun y x r => some (pc + 1, lv, .int (x * y) :: r, h, c, s))
  | .iand => xp_ii st (fun y x r => some (pc + 1, lv, .int (x &&& y) :: r, h, c, s))
  | .ior => xp_ii st (fun y x r => some (pc + 1, lv, .int (x ||| y) :: r, h, c, s))
  | .ixor => xp_ii st (fun y x r => some (pc + 1, lv, .int (x ^^^ y) :: r, h, c, s))
  | .ishl => xp_ii st (fun y x r => some (pc + 1, lv, .int (x <<< (y &&& 31)) :: r, h, c, s))
  | .ishr => xp_ii st (fun y x r => some (pc + 1, lv, .int (x >>> (y &&& 31)) :: r, h, c, s))
  | .iushr => xp_ii st (fun y x r => some (pc + 1, lv, .int (x.toUInt32 >>> (y.toUInt32 &&& Int32.toUInt32 31)).toInt32 :: r, h, c, s))
  | .irem => xp_ii st (fun y x r => cond (decide (y = 0)) none (some (pc + 1, lv, .int (x - x / y * y) :: r, h, c, s)))
  | .ladd => xp_ll st (fun y x r => some (pc + 1, lv, .long (x + y) :: r, h, c, s))
  | .lsub => xp_ll st (fun y x r => some (pc + 1, lv, .long (x - y) :: r, h, c, s))
  | .lmul => xp_ll st (fun y x r => some (pc + 1, lv, .long (x * y) :: r, h, c, s))
  | .land => xp_ll st (fun y x r => some (pc + 1, lv, .long (x &&& y) :: r, h, c, s))
  | .lor => xp_ll st (fun y x r => some (pc + 1, lv, .long (x ||| y) :: r, h, c, s))
  | .ldiv => xp_ll st (fun y x r => cond (decide (y = 0)) none (some (pc + 1, lv, .long (x / y) :: r, h, c, s)))
  | .lrem => xp_ll st (fun y x r => cond (decide (y = 0)) none (some (pc + 1, lv, .long (x - x / y * y) :: r, h, c, s)))
  | .lushr => xp_il st (fun y x r => some (pc + 1, lv, .long (x.toUInt64 >>> (y.toInt64.toUInt64 &&& Int64.toUInt64 63)).toInt64 :: r, h, c, s))
  | .lshl => xp_il st (fun y x r => some (pc + 1, lv, .long (x <<< (y.toInt64 &&& 63)) :: r, h, c, s))
  | .lcmp => xp_ll st (fun y x r => some (pc + 1, lv, .int (lg_cmp x y) :: r, h, c, s))
  | .i2l => xp_i st (fun x r => some (pc + 1, lv, .long x.toInt64 :: r, h, c, s))
  | .l2i => xp_l st (fun x r => some (pc + 1, lv, .int x.toInt32 :: r, h, c, s))
  | .i2b => xp_i st (fun x r => some (pc + 1, lv, .int x.toInt8.toInt32 :: r, h, c, s))
  | .i2c => xp_i st (fun x r => some (pc + 1, lv, .int (x.toUInt32 % 65536).toInt32 :: r, h, c, s))
  | .dup => (match st with
    | a :: r => cond (Nat.beq a.category 1) (some (pc + 1, lv, a :: a :: r, h, c, s)) none
    | _ => none)
  | .pop => (match st with
    | a :: r => cond (Nat.beq a.category 1) (some (pc + 1, lv, r, h, c, s)) none
    | _ => none)
  | .pop2 => xp_l st (fun _ r => some (pc + 1, lv, r, h, c, s))
  | .dup2 => (match st with
    | a :: b :: r => cond (Nat.beq a.category 1 && Nat.beq b.category 1) (some (pc + 1, lv, a :: b :: a :: b :: r, h, c, s)) none
    | _ => none)
  | .dup_x2 => (match st with
    | a :: b :: d :: r => cond (Nat.beq a.category 1 && (Nat.beq b.category 1 && Nat.beq d.category 1)) (some (pc + 1, lv, a :: b :: d :: a :: r, h, c, s)) none
    | _ => none)
  | .ifCond k _ => xp_i st (fun x q => cond (xe_c k x 0) (some (r.2.2.1, lv, q, h, c, s)) (some (pc + 3, lv, q, h, c, s)))
  | .if_icmp k _ => xp_ii st (fun y x q => cond (xe_c k x y) (some (r.2.2.1, lv, q, h, c, s)) (some (pc + 3, lv, q, h, c, s)))
  | .goto _ => some (r.2.2.1, lv, st, h, c, s)
  | .ifnull _ => (match st with
    | .ref _ :: q => some (pc + 3, lv, q, h, c, s)
    | .null :: q => some (r.2.2.1, lv, q, h, c, s)
    | _ => none)
  | .if_acmp .ne _ => (match st with
    | .ref y :: .ref x :: q => cond (Nat.ble (x + 1) h.1.length && Nat.ble (y + 1) h.1.length) (cond (Nat.beq x y) (some (pc + 3, lv, q, h, c, s)) (some (r.2.2.1, lv, q, h, c, s))) none
    | _ => none)
  | .tableswitch dflt lo hi offs => xp_i st (fun x q => cond (decide (x.toInt < lo) || decide (hi < x.toInt))
      (cond (decide (0 ≤ (pc : Int) + dflt)) (some (((pc : Int) + dflt).toNat, lv, q, h, c, s)) none)
      (match offs[(x.toInt - lo).toNat]? with
        | some off => cond (decide (0 ≤ (pc : Int) + off)) (some (((pc : Int) + off).toNat, lv, q, h, c, s)) none
        | none => none))
  | .getfield _ => xp_r st (fun a q => match h.1[a]? with
    | some (0, ci) => cond (Nat.beq ci r.2.2.1) (some (pc + 3, lv, xh_get h a (xh_ty r.2.2.1 r.2.2.2.1) r.2.2.2.1 :: q, h, c, s)) none
    | _ => none)
  | .putfield _ => xp_vr st (fun v a q => match h.1[a]? with
    | some (0, ci) => cond (Nat.beq ci r.2.2.1) ((xe_put h a (xh_ty r.2.2.1 r.2.2.2.1) r.2.2.2.1 v).map (fun h' => (pc + 3, lv, q, h', c, s))) none
    | _ => none)
  | .iaload => xp_ir st (fun i a q => match h.1[a]? with
    | some (1, n) => cond (xe_in i n) (some (pc + 1, lv, .int (xg 0 h.2.1 a i.toNatClampNeg) :: q, h, c, s)) none
    | _ => none)
  | .baload => xp_ir st (fun i a q => match h.1[a]? with
    | some (2, n) => cond (xe_in i n) (some (pc + 1, lv, .int (xg 0 h.2.1 a i.toNatClampNeg) :: q, h, c, s)) none
    | some (3, n) => cond (xe_in i n) (some (pc + 1, lv, .int (xg 0 h.2.1 a i.toNatClampNeg) :: q, h, c, s)) none
    | _ => none)
  | .laload => xp_ir st (fun i a q => match h.1[a]? with
    | some (4, n) => cond (xe_in i n) (some (pc + 1, lv, .long (xg 0 h.2.2.1 a i.toNatClampNeg) :: q, h, c, s)) none
    | _ => none)
  | .aaload => xp_ir st (fun i a q => match h.1[a]? with
    | some (5, n) => cond (xe_in i n) (some (pc + 1, lv, va_rf (xg none h.2.2.2 a i.toNatClampNeg) :: q, h, c, s)) none
    | _ => none)
  | .iastore => xp_iir st (fun x i a q => match h.1[a]? with
    | some (1, n) => cond (xe_in i n) (some (pc + 1, lv, q, xh_ui h a i.toNatClampNeg x, c, s)) none
    | _ => none)
  | .bastore => xp_iir st (fun x i a q => match h.1[a]? with
    | some (2, n) => cond (xe_in i n) (some (pc + 1, lv, q, xh_ui h a i.toNatClampNeg (vp_nar .byte x), c, s)) none
    | some (3, n) => cond (xe_in i n) (some (pc + 1, lv, q, xh_ui h a i.toNatClampNeg (vp_nar .boolean x), c, s)) none
    | _ => none)
  | .lastore => xp_lir st (fun x i a q => match h.1[a]? with
    | some (4, n) => cond (xe_in i n) (some (pc + 1, lv, q, xh_ul h a i.toNatClampNeg x, c, s)) none
    | _ => none)
  | .aastore => xp_rir st (fun x i a q => match h.1[a]? with
    | some (5, n) => (match h.1[x]? with
      | some (0, 7) => cond (xe_in i n) (some (pc + 1, lv, q, xh_ur h a i.toNatClampNeg (some x), c, s)) none
      | _ => none)
    | _ => none)
  | .arraylength => xp_r st (fun a q => match h.1[a]? with
    | some (k + 1, n) => cond (Nat.ble (k + 1) 5) (some (pc + 1, lv, .int (Int32.ofNat n) :: q, h, c, s)) none
    | _ => none)
  | .newarray t => xp_i st (fun n q => cond (!decide (n < 0) && (Nat.ble (xa_k t) 5 && Nat.ble n.toNatClampNeg 1000000)) (some (pc + 2, lv, .ref h.1.length :: q, xh_nw h (xa_k t, n.toNatClampNeg), c + 1, s + n.toNatClampNeg)) none)
  | .anewarray _ => xp_i st (fun n q => cond (!decide (n < 0) && Nat.ble n.toNatClampNeg 1000000) (some (pc + 3, lv, .ref h.1.length :: q, xh_nw h (5, n.toNatClampNeg), c + 1, s + n.toNatClampNeg)) none)
  | .new _ => some (pc + 3, lv, .ref h.1.length :: st, xh_nw h (0, r.2.2.1), c + 1, s + xh_N r.2.2.1)
  | _ => none
end XE
end
section
section XR
theorem xh_at.set {D : va_G} {cy : Nat → ClassId} {ad : Nat → Nat} {A : Nat → Prop} {h h' : xh_H} {H H1 : Heap} {c : Nat} {sh : Nat × Nat} (hat : xh_at D cy ad A h H) (hc : h.1[c]? = some sh) (h1 : h'.1 = h.1) (ho : ∀ c', c' ≠ c → xg 0 h'.2.1 c' = xg 0 h.2.1 c' ∧ xg 0 h'.2.2.1 c' = xg 0 h.2.2.1 c' ∧ xg none h'.2.2.2 c' = xg none h.2.2.2 c') (he : va_at D vwCl (ad c, xh_e ad cy h' c sh) H1) (oq : ∀ q : Nat, q ≠ ad c → H1[q]? = H[q]?) (z : H1.size = H.size) : xh_at D cy ad A h' H1 := by
  obtain ⟨hP, hD, hn⟩ := hat
  refine ⟨?_, ?_, ?_⟩
  · rw [← xh_ws_set (ad := ad) (cy := cy) h1 ho hc]
    exact hP.set hD (xh_ws_at hc) he oq
  · rw [← xh_ws_set (ad := ad) (cy := cy) h1 ho hc]
    exact hD.set (xh_ws_at hc)
  · intro j
    rw [h1, z]
    exact hn j
theorem xh_at.new {D : va_G} {cy : Nat → ClassId} {ad : Nat → Nat} {A : Nat → Prop} {h : xh_H} {H H1 : Heap} {sh : Nat × Nat} (hat : xh_at D cy ad A h H) (he : va_at D vwCl (H.size, xh_e ad cy (xh_nw h sh) h.1.length sh) H1) (oq : ∀ q : Nat, q < H.size → H1[q]? = H[q]?) (z : H1.size = H.size + 1) (hA : A H.size) : xh_at D cy ad A (xh_nw h sh) H1 := by
  obtain ⟨hP, hD, hn⟩ := hat
  have h0 : ad h.1.length = H.size := hn 0
  have hw : xh_ws ad cy (xh_nw h sh) = xh_ws ad cy h ++ [(H.size, xh_e ad cy (xh_nw h sh) h.1.length sh)] := by
    rw [← h0]
    exact xh_ws_new rfl (fun c' hc' => ⟨xh_rs_o hc', xh_rs_o hc', xh_rs_o hc'⟩)
  refine ⟨?_, ?_, ?_⟩
  · rw [hw]
    refine (hP.kept (fun k q hq => oq q.1 ((hP k q hq).lt))).app (fun k q hq => ?_)
    have hz : k < 1 := (List.getElem?_eq_some_iff.mp hq).1
    rw [show k = 0 by omega] at hq
    cases hq
    exact he
  · rw [hw]
    exact hD.push hP rfl hA
  · intro j
    have := hn (1 + j)
    simp only [xh_nw, List.length_append, List.length_cons, List.length_nil]
    rw [z, show h.1.length + (0 + 1) + j = h.1.length + (1 + j) by omega, this]
    omega
theorem xw_bb {a b : Bool} (h : (a && b) = true) : a = true ∧ b = true := by cases a <;> cases b <;> simp_all
theorem xw_ble {a b : Nat} (h : Nat.ble a b = true) : a ≤ b := Nat.le_of_ble_eq_true h
theorem xw_beq {a b : Nat} (h : Nat.beq a b = true) : a = b := Nat.eq_of_beq_eq_true h
theorem xw_c {α : Type} {b : Bool} {x : Option α} {o : α} (h : cond b x none = some o) : b = true ∧ x = some o := by
  cases b with
  | true => exact ⟨rfl, h⟩
  | false => cases h
theorem xw_c0 {α : Type} {b : Bool} {x : Option α} {o : α} (h : cond b none x = some o) : b = false ∧ x = some o := by
  cases b with
  | true => cases h
  | false => exact ⟨rfl, h⟩
theorem xe_in_v {i : Int32} {n : Nat} (h : xe_in i n = true) : vp_in i n := by
  obtain ⟨h1, h2⟩ := xw_bb h
  have h1 : ¬ i < 0 := by simpa using h1
  have h2 := xw_ble h2
  intro z
  rcases z with z | z
  · exact h1 z
  · omega
variable {p : Program} {l : Launch} {e : Env} {R : Room} {s : State} {m : MethodId} {args : Array Value} {below : List Frame} {meth : Method} {c : Code} {H : Heap} {locs : List Loc} {cells slots : Nat} {Q : State → Prop}
variable {cc : ByteArray} {pc : Nat} {ls : Array Slot} {rest : List Value} {D : va_G} {A : Nat → Prop} {ad : Nat → Nat} {cy : Nat → ClassId} {h : xh_H} {H0 : Heap} {q0 n : Nat}
theorem xa_iast (hexec : p.tables.exec = Jvm.exec) (hb : c.code = cc) (hK : va_K D vwCl (xh_ts cy) s) (hat : xh_at D cy ad A h H) (hS : va_S A H0 H locs) (hc : h.1[q0]? = some (1, n)) {i x : Int32} (hin : vp_in i n) (hdg : decode cc pc = .ok (.iastore, 1))
    (kk : ∀ (H1 : Heap) (locs1 : List Loc), xh_at D cy ad A (xh_ui h q0 i.toNatClampNeg x) H1 → va_S A H0 H1 locs1 → W p l e R s m args below meth c H1 locs1 cells slots Q (F0 m (pc + 1) ls rest)) : W p l e R s m args below meth c H locs cells slots Q (F0 m pc ls (.int x :: .int i :: .ref (ad q0) :: rest)) := by
  have ha := xh_ws_at (ad := ad) (cy := cy) hc
  refine W.iast hexec hb (hat.1 q0 _ ha) ((hK.2 0 _ rfl).1 n (fun j => .int (xg 0 h.2.1 q0 j))) (fun q => by cases q) (by show ¬ (i < 0 ∨ (arrV _ _ _).slots.size ≤ _); rw [arrV_size]; exact hin) rfl rfl hdg fun H1 e z oq => ?_
  refine kk H1 _ (hat.set (h' := xh_ui h q0 i.toNatClampNeg x) hc rfl (fun c' hc' => ⟨xh_up_o hc', rfl, rfl⟩) ?_ oq z) (hS.put z oq (hat.2.1.2 q0 _ ha))
  show H1[ad q0]? = some (vp_cell _ _)
  rw [e]
  show some (Cell.setSlot (vp_cell _ (n, .inl (xg 0 h.2.1 q0))) _ _) = some (vp_cell _ (n, .inl (xg 0 (xh_up 0 h.2.1 q0 i.toNatClampNeg x) q0)))
  rw [vp_cell_i, vp_cell_i, arrV_store]
  congr 2
  funext q
  by_cases hq : q = i.toNatClampNeg
  · subst hq
    simp [updV, xh_up_s]
  · simp [updV, hq, xh_up_k hq]
theorem xa_bast (hexec : p.tables.exec = Jvm.exec) (hb : c.code = cc) (hK : va_K D vwCl (xh_ts cy) s) (hat : xh_at D cy ad A h H) (hS : va_S A H0 H locs) (hc : h.1[q0]? = some (2, n)) {i x : Int32} (hin : vp_in i n) (hdg : decode cc pc = .ok (.bastore, 1))
    (kk : ∀ (H1 : Heap) (locs1 : List Loc), xh_at D cy ad A (xh_ui h q0 i.toNatClampNeg (vp_nar .byte x)) H1 → va_S A H0 H1 locs1 → W p l e R s m args below meth c H1 locs1 cells slots Q (F0 m (pc + 1) ls rest)) : W p l e R s m args below meth c H locs cells slots Q (F0 m pc ls (.int x :: .int i :: .ref (ad q0) :: rest)) := by
  have ha := xh_ws_at (ad := ad) (cy := cy) hc
  refine W.bast hexec hb (hat.1 q0 _ ha) ((hK.2 1 _ rfl).1 n (fun j => .int (xg 0 h.2.1 q0 j))) (fun q => by cases q) (by show ¬ (i < 0 ∨ (arrV _ _ _).slots.size ≤ _); rw [arrV_size]; exact hin) rfl rfl hdg fun H1 e z oq => ?_
  refine kk H1 _ (hat.set (h' := xh_ui h q0 i.toNatClampNeg (vp_nar .byte x)) hc rfl (fun c' hc' => ⟨xh_up_o hc', rfl, rfl⟩) ?_ oq z) (hS.put z oq (hat.2.1.2 q0 _ ha))
  show H1[ad q0]? = some (vp_cell _ _)
  rw [e]
  show some (Cell.setSlot (vp_cell _ (n, .inl (xg 0 h.2.1 q0))) _ _) = some (vp_cell _ (n, .inl (xg 0 (xh_up 0 h.2.1 q0 i.toNatClampNeg (vp_nar .byte x)) q0)))
  rw [vp_cell_i, vp_cell_i, arrV_store]
  congr 2
  funext q
  by_cases hq : q = i.toNatClampNeg
  · subst hq
    simp [updV, xh_up_s, vp_nar]
    try rfl
  · simp [updV, hq, xh_up_k hq]
theorem xa_zast (hexec : p.tables.exec = Jvm.exec) (hb : c.code = cc) (hK : va_K D vwCl (xh_ts cy) s) (hat : xh_at D cy ad A h H) (hS : va_S A H0 H locs) (hc : h.1[q0]? = some (3, n)) {i x : Int32} (hin : vp_in i n) (hdg : decode cc pc = .ok (.bastore, 1))
    (kk : ∀ (H1 : Heap) (locs1 : List Loc), xh_at D cy ad A (xh_ui h q0 i.toNatClampNeg (vp_nar .boolean x)) H1 → va_S A H0 H1 locs1 → W p l e R s m args below meth c H1 locs1 cells slots Q (F0 m (pc + 1) ls rest)) : W p l e R s m args below meth c H locs cells slots Q (F0 m pc ls (.int x :: .int i :: .ref (ad q0) :: rest)) := by
  have ha := xh_ws_at (ad := ad) (cy := cy) hc
  refine W.zast hexec hb (hat.1 q0 _ ha) ((hK.2 2 _ rfl).1 n (fun j => .int (xg 0 h.2.1 q0 j))) (fun q => by cases q) (by show ¬ (i < 0 ∨ (arrV _ _ _).slots.size ≤ _); rw [arrV_size]; exact hin) rfl rfl hdg fun H1 e z oq => ?_
  refine kk H1 _ (hat.set (h' := xh_ui h q0 i.toNatClampNeg (vp_nar .boolean x)) hc rfl (fun c' hc' => ⟨xh_up_o hc', rfl, rfl⟩) ?_ oq z) (hS.put z oq (hat.2.1.2 q0 _ ha))
  show H1[ad q0]? = some (vp_cell _ _)
  rw [e]
  show some (Cell.setSlot (vp_cell _ (n, .inl (xg 0 h.2.1 q0))) _ _) = some (vp_cell _ (n, .inl (xg 0 (xh_up 0 h.2.1 q0 i.toNatClampNeg (vp_nar .boolean x)) q0)))
  rw [vp_cell_i, vp_cell_i, arrV_store]
  congr 2
  funext q
  by_cases hq : q = i.toNatClampNeg
  · subst hq
    simp [updV, xh_up_s, vp_nar]
    try rfl
  · simp [updV, hq, xh_up_k hq]
theorem xa_last (hexec : p.tables.exec = Jvm.exec) (hb : c.code = cc) (hK : va_K D vwCl (xh_ts cy) s) (hat : xh_at D cy ad A h H) (hS : va_S A H0 H locs) (hc : h.1[q0]? = some (4, n)) {i : Int32} {x : Int64} (hin : vp_in i n) (hdg : decode cc pc = .ok (.lastore, 1))
    (kk : ∀ (H1 : Heap) (locs1 : List Loc), xh_at D cy ad A (xh_ul h q0 i.toNatClampNeg x) H1 → va_S A H0 H1 locs1 → W p l e R s m args below meth c H1 locs1 cells slots Q (F0 m (pc + 1) ls rest)) : W p l e R s m args below meth c H locs cells slots Q (F0 m pc ls (.long x :: .int i :: .ref (ad q0) :: rest)) := by
  have ha := xh_ws_at (ad := ad) (cy := cy) hc
  refine W.last hexec hb (hat.1 q0 _ ha) ((hK.2 3 _ rfl).1 n (fun j => .long (xg 0 h.2.2.1 q0 j))) (fun q => by cases q) (by show ¬ (i < 0 ∨ (arrV _ _ _).slots.size ≤ _); rw [arrV_size]; exact hin) rfl rfl hdg fun H1 e z oq => ?_
  refine kk H1 _ (hat.set (h' := xh_ul h q0 i.toNatClampNeg x) hc rfl (fun c' hc' => ⟨rfl, xh_up_o hc', rfl⟩) ?_ oq z) (hS.put z oq (hat.2.1.2 q0 _ ha))
  show H1[ad q0]? = some (vp_cell _ _)
  rw [e]
  show some (Cell.setSlot (vp_cell _ (n, .inr (.inl (xg 0 h.2.2.1 q0)))) _ _) = some (vp_cell _ (n, .inr (.inl (xg 0 (xh_up 0 h.2.2.1 q0 i.toNatClampNeg x) q0))))
  rw [vp_cell_l, vp_cell_l, arrV_store]
  congr 2
  funext q
  by_cases hq : q = i.toNatClampNeg
  · subst hq
    simp [updV, xh_up_s]
  · simp [updV, hq, xh_up_k hq]
theorem xa_astq (hexec : p.tables.exec = Jvm.exec) (hb : c.code = cc) (hK : va_K D vwCl (xh_ts cy) s) (hat : xh_at D cy ad A h H) (hS : va_S A H0 H locs) (hc : h.1[q0]? = some (5, n)) {v : Nat} (hv : h.1[v]? = some (0, 7)) {i : Int32} (hin : vp_in i n) (hdg : decode cc pc = .ok (.aastore, 1))
    (kk : ∀ (H1 : Heap) (locs1 : List Loc), xh_at D cy ad A (xh_ur h q0 i.toNatClampNeg (some v)) H1 → va_S A H0 H1 locs1 → W p l e R s m args below meth c H1 locs1 cells slots Q (F0 m (pc + 1) ls rest)) : W p l e R s m args below meth c H locs cells slots Q (F0 m pc ls (.ref (ad v) :: .int i :: .ref (ad q0) :: rest)) := by
  have ha := xh_ws_at (ad := ad) (cy := cy) hc
  have hlt : i.toNatClampNeg < n := Nat.not_le.mp fun q => hin (Or.inr q)
  have h0 : ¬ i < 0 := fun q => hin (Or.inl q)
  obtain ⟨r', hr', cellV, g1, g2, g3, -⟩ := hat.1 v _ (xh_ws_at (ad := ad) (cy := cy) hv)
  have hcls := (hK.1 7 _ rfl).2
  obtain ⟨kA, comp, k1, k2, k3, -⟩ := (hK.2 4 _ rfl).2
  have hcomp : comp = D.1 7 := Option.some.inj (k3.symm.trans hcls.1)
  subst hcomp
  obtain ⟨kC, hkC, -⟩ := hcls.2
  refine W.aast hexec hb (hat.1 q0 _ ha) (fun q h => by cases h) (fun h => by cases h) k1 k2 rfl hkC ⟨h0, by show _ < (arrV _ _ _).slots.size; rw [arrV_size]; exact hlt⟩ g1 (fun q h => by rw [g3] at h; cases h) (by rw [g2]; exact hkC) (by rw [g2]; exact va_assign hcls) rfl rfl hdg fun H1 e z oq => ?_
  refine kk H1 _ (hat.set (h' := xh_ur h q0 i.toNatClampNeg (some v)) hc rfl (fun c' hc' => ⟨rfl, rfl, xh_up_o hc'⟩) ?_ oq z) (hS.put z oq (hat.2.1.2 q0 _ ha))
  show H1[ad q0]? = some (vp_cell _ _)
  rw [e]
  show some (Cell.setSlot (vp_cell _ (n, .inr (.inr (.inr (.inr (fun j => (xg none h.2.2.2 q0 j).map ad)))))) _ _) = some (vp_cell _ (n, .inr (.inr (.inr (.inr (fun j => (xg none (xh_up none h.2.2.2 q0 i.toNatClampNeg (some v)) q0 j).map ad))))))
  rw [vp_cell_q, vp_cell_q, arrV_store]
  congr 2
  funext q
  by_cases hq : q = i.toNatClampNeg
  · subst hq
    simp [updV, xh_up_s, va_rf]
  · simp [updV, hq, xh_up_k hq]
/-- a field is written; h' is the heap behind it -/
theorem xa_put (hexec : p.tables.exec = Jvm.exec) (hb : c.code = cc) {own ref C : String} {T : u_T} {N ci index : Nat} {Ts : List Cond} (hts : ∀ w ∈ Ts, w.before args s = true) (hin : ∀ w ∈ u_ws C T N, w ∈ Ts) (hty : ∀ k, k < N → parseFieldDescriptor (T k).2.2.1 = some (xh_ty ci k)) (hnm : ∀ a, a < N → ∀ b, b < N → a ≠ b → (T a).2.1 ≠ (T b).2.1) (hown : s.vm.findClass own = some m.cls) (hK : va_K D vwCl (xh_ts cy) s) (hat : xh_at D cy ad A h H) (hS0 : va_S A H0 H locs) (hc0 : h.1[q0]? = some (0, ci)) (hc : vwCl[ci]? = some (C, T, N)) (hN : N = xh_N ci) (k : Nat) (hk : k < N) (hlink : (Cond.fieldLink own index ref (T k).2.1 (T k).2.2.1).before args s = true) (hsame : ∀ x, s.fieldFound? (T k).1 (T k).2.1 (T k).2.2.1 = some x → s.fieldFound? ref (T k).2.1 (T k).2.2.1 = some x) (hfin : (T k).2.2.2 = false ∨ (meth.name = "<init>" ∧ (T k).1 = own)) {v : Value} (hn : narrow (xh_ty ci k) v = v) (hfit : fits (xh_ty ci k) v = true) {h' : xh_H} (h1 : h'.1 = h.1) (ho : ∀ c', c' ≠ q0 → xg 0 h'.2.1 c' = xg 0 h.2.1 c' ∧ xg 0 h'.2.2.1 c' = xg 0 h.2.2.1 c' ∧ xg none h'.2.2.2 c' = xg none h.2.2.2 c') (hv : xh_fv ad h' q0 (xh_ty ci k) k = v) (hvo : ∀ j, j ≠ k → xh_fv ad h' q0 (xh_ty ci j) j = xh_fv ad h q0 (xh_ty ci j) j)
    (hdg : decode cc pc = .ok (.putfield index, 3)) (kk : ∀ (H1 : Heap) (locs1 : List Loc), xh_at D cy ad A h' H1 → va_S A H0 H1 locs1 → W p l e R s m args below meth c H1 locs1 cells slots Q (F0 m (pc + 3) ls rest)) : W p l e R s m args below meth c H locs cells slots Q (F0 m pc ls (v :: .ref (ad q0) :: rest)) := by
  have hap := va_apart (own := own) hts hin (xh_ty ci) hty hnm hK hc
  have he := xh_ws_at (ad := ad) (cy := cy) hc0
  obtain ⟨r, g1, cell, q1, q2, q3, q4⟩ := hat.1 q0 _ he
  have hr : r = (C, T, N) := Option.some.inj (g1.symm.trans hc)
  subst hr
  obtain ⟨hSl, hfc, kC, hkC, hkind⟩ := hK.1 ci _ hc
  obtain ⟨cf, kf, fi, f, hi, hsl⟩ := hSl k hk
  have hlay := hts _ (hin _ (u_in_lay hk))
  have hst := (u_facts hfc hkC (u_lays hts hin hk) hi).1
  have fin : ∀ (H' : Heap), H'[ad q0]? = some (cell.setSlot f.slot v) → H'.size = H.size → (∀ q, q ≠ ad q0 → H'[q]? = H[q]?) → W p l e R s m args below meth c H' (locs ++ [⟨ad q0, f.slot⟩]) cells slots Q (F0 m (pc + 3) ls rest) := by
    intro H' e1 e2 e3
    rw [hsl] at e1 ⊢
    refine kk H' _ (hat.set hc0 h1 ho ?_ e3 e2) (hS0.put e2 e3 (hat.2.1.2 q0 _ he))
    refine ⟨_, hc, ?_⟩
    have hob : t_OB (ad q0) (D.1 ci) N (D.2 ci) H' (updV (vp_V ((List.range (xh_N ci)).map (fun k => xh_fv ad h q0 (xh_ty ci k) k))) k v) := ⟨_, e1, q2, q3, t_set q4 hap hk v⟩
    refine hob.to (fun j _ => ?_)
    rw [vp_updV_set (by simp [← hN, hk]) v j]
    show vp_V _ j = vp_V ((List.range (xh_N ci)).map (fun k => xh_fv ad h' q0 (xh_ty ci k) k)) j
    rw [xh_fs_set (g := fun k => xh_fv ad h' q0 (xh_ty ci k) k) hv hvo]
  by_cases hf : (T k).2.2.2 = true
  · have hf2 : meth.name = "<init>" ∧ (T k).1 = own := by
      rcases hfin with z | z
      · rw [hf] at z; cases z
      · exact z
    unfold u_lay at hlay
    rw [if_pos hf] at hlay
    have hcf : m.cls = cf := by
      obtain ⟨_, _, c', _, _, _, -, -, hf', -, -, -, hown2, -⟩ := Cond.laysFinal_spec hlay
      have e1 : c' = cf := by have := hi.symm.trans hf'; simp at this; exact this.1.symm
      rw [hf2.2] at hown2
      rw [← e1]; exact Option.some.inj (hown.symm.trans hown2)
    have h6 := u_fits hfc hkC hkind (Or.inr hlay) hi (hty k hk) hn hfit
    exact W.putFinK hexec hb hown hlink (hsame _ hi) hst hcf hf2.1 (by rw [q2]; exact h6) q1 q3 (by rw [hsl]; exact k2_hasslot (q4 k hk)) rfl rfl hdg fin
  · unfold u_lay at hlay
    rw [if_neg hf] at hlay
    have h6 := u_store hfc hkC hkind hlay hi (hty k hk) hn hfit
    exact W.putK hexec hb (f := f) ⟨hown, hlink, ⟨_, _, _, hsame _ hi⟩, hst⟩ (by rw [q2]; exact h6) q1 q3 (by rw [hsl]; exact k2_hasslot (q4 k hk)) rfl rfl hdg fin
end XR
end
section
section XN
variable {p : Program} {l : Launch} {e : Env} {R : Room} {s : State} {m : MethodId} {args : Array Value} {below : List Frame} {meth : Method} {c : Code} {H : Heap} {locs : List Loc} {cells slots : Nat} {Q : State → Prop}
variable {cc : ByteArray} {pc : Nat} {ls : Array Slot} {rest : List Value} {D : va_G} {A : Nat → Prop} {ad : Nat → Nat} {cy : Nat → ClassId} {h : xh_H} {H0 : Heap} {q0 n : Nat}
theorem xh_dv (ci k : Nat) (hk : (∃ q, xh_ty ci k = .object q) ∨ (∃ q, xh_ty ci k = .array q) ∨ xh_ty ci k = .int ∨ xh_ty ci k = .boolean ∨ xh_ty ci k = .long) (ad : Nat → Nat) (h : xh_H) (sh : Nat × Nat) : defaultValue (xh_ty ci k) = xh_fv ad (xh_nw h sh) h.1.length (xh_ty ci k) k := by
  have hi : xg 0 (xh_nw h sh).2.1 h.1.length k = 0 := by show xg 0 (xh_rs h.2.1 h.1.length) h.1.length k = 0; rw [xh_rs_s]
  have hl : xg 0 (xh_nw h sh).2.2.1 h.1.length k = 0 := by show xg 0 (xh_rs h.2.2.1 h.1.length) h.1.length k = 0; rw [xh_rs_s]
  have hr : xg none (xh_nw h sh).2.2.2 h.1.length k = none := by show xg none (xh_rs h.2.2.2 h.1.length) h.1.length k = none; rw [xh_rs_s]
  rcases hk with ⟨q, hq⟩ | ⟨q, hq⟩ | hq | hq | hq <;> rw [hq] <;> simp [xh_fv, hi, hl, hr, defaultValue, va_rf]
theorem xa_new (hexec : p.tables.exec = Jvm.exec) (hb : c.code = cc) {own C : String} {T : u_T} {N ci index : Nat} {Ts : List Cond} (hts : ∀ w ∈ Ts, w.before args s = true) (hin : ∀ w ∈ u_ws C T N, w ∈ Ts) (hty : ∀ k, k < N → parseFieldDescriptor (T k).2.2.1 = some (xh_ty ci k)) (hkd : ∀ k, k < N → (∃ q, xh_ty ci k = .object q) ∨ (∃ q, xh_ty ci k = .array q) ∨ xh_ty ci k = .int ∨ xh_ty ci k = .boolean ∨ xh_ty ci k = .long) (hown : s.vm.findClass own = some m.cls) (hcl : (Cond.classLink own index C).before args s = true) (hinst : (Cond.instantiable C N).before args s = true) (hini : (Cond.initialized C).before args s = true)
    (hK : va_K D vwCl (xh_ts cy) s) (hat : xh_at D cy ad A h H) (hS : va_S A H0 H locs) (hA : ∀ q, H0.size ≤ q → A q) (hc : vwCl[ci]? = some (C, T, N)) (hN : N = xh_N ci) (hcells : cells + 1 ≤ R.cells) (hslots : slots + N ≤ R.slots) (hdg : decode cc pc = .ok (.new index, 3))
    (kk : ∀ (H1 : Heap), xh_at D cy ad A (xh_nw h (0, ci)) H1 → va_S A H0 H1 locs → W p l e R s m args below meth c H1 locs (cells + 1) (slots + N) Q (F0 m (pc + 3) ls (.ref (ad h.1.length) :: rest))) : W p l e R s m args below meth c H locs cells slots Q (F0 m pc ls rest) := by
  have hKn := hK.1 ci _ hc
  have h0 : ad h.1.length = H.size := hat.2.2 0
  rw [h0] at kk
  refine W.newcK hexec hb hown hcl hinst hini rfl hdg hcells hslots hKn.2.1 rfl fun H1 kC hkC e1 z1 o1 => ?_
  refine kk H1 (hat.new ?_ o1 z1 (hA _ hS.1)) ⟨Nat.le_trans hS.1 (by omega), fun x h1 h2 => (o1 x (Nat.lt_of_lt_of_le h1 hS.1)).trans (hS.2.1 x h1 h2), hS.2.2⟩
  refine ⟨_, hc, (u_born (xh_ty ci) hts hin hKn hkC e1 hty).to (fun j hj => ?_)⟩
  show defaultValue (xh_ty ci j) = vp_V ((List.range (xh_N ci)).map (fun k => xh_fv ad (xh_nw h (0, ci)) h.1.length (xh_ty ci k) k)) j
  rw [xh_dv ci j (hkd j hj) ad h (0, ci)]
  have : j < xh_N ci := by rw [← hN]; exact hj
  simp [vp_V, this]
theorem xa_newa (hexec : p.tables.exec = Jvm.exec) (hb : c.code = cc) {t : ArrayType} (harr : (Cond.arrayClass (newarray.typeOf t)).before args s = true) (ht : xa_k t ≤ 5) (hK : va_K D vwCl (xh_ts cy) s) (hat : xh_at D cy ad A h H) (hS : va_S A H0 H locs) (hA : ∀ q, H0.size ≤ q → A q)
    {z : Int32} (hz : ¬ z < 0) (hz2 : z.toNatClampNeg ≤ 1000000) (hcells : cells + 1 ≤ R.cells) (hslots : slots + z.toNatClampNeg ≤ R.slots) (hdg : decode cc pc = .ok (.newarray t, 2))
    (kk : ∀ (H1 : Heap), xh_at D cy ad A (xh_nw h (xa_k t, z.toNatClampNeg)) H1 → va_S A H0 H1 locs → W p l e R s m args below meth c H1 locs (cells + 1) (slots + z.toNatClampNeg) Q (F0 m (pc + 2) ls (.ref (ad h.1.length) :: rest))) : W p l e R s m args below meth c H locs cells slots Q (F0 m pc ls (.int z :: rest)) := by
  have h0 : ad h.1.length = H.size := hat.2.2 0
  rw [h0] at kk
  refine va_newaK hexec hb harr rfl hdg rfl hz rfl (by cases t <;> simp [newarray.typeOf, componentBytes] <;> omega) hcells hslots rfl fun H1 cA e1 z1 o1 hAr hNm => ?_
  refine kk H1 (hat.new ?_ o1 z1 (hA _ hS.1)) ⟨Nat.le_trans hS.1 (by omega), fun x h1 h2 => (o1 x (Nat.lt_of_lt_of_le h1 hS.1)).trans (hS.2.1 x h1 h2), hS.2.2⟩
  cases t with
  | int =>
    have : cA = cy 1 := Option.some.inj (hNm.symm.trans (hK.2 0 _ rfl).2)
    subst this
    show H1[H.size]? = some (vp_cell _ (_, .inl (xg 0 (xh_rs h.2.1 h.1.length) h.1.length)))
    rw [xh_rs_s, e1]; rfl
  | byte =>
    have : cA = cy 2 := Option.some.inj (hNm.symm.trans (hK.2 1 _ rfl).2)
    subst this
    show H1[H.size]? = some (vp_cell _ (_, .inl (xg 0 (xh_rs h.2.1 h.1.length) h.1.length)))
    rw [xh_rs_s, e1]; rfl
  | boolean =>
    have : cA = cy 3 := Option.some.inj (hNm.symm.trans (hK.2 2 _ rfl).2)
    subst this
    show H1[H.size]? = some (vp_cell _ (_, .inl (xg 0 (xh_rs h.2.1 h.1.length) h.1.length)))
    rw [xh_rs_s, e1]; rfl
  | long =>
    have : cA = cy 4 := Option.some.inj (hNm.symm.trans (hK.2 3 _ rfl).2)
    subst this
    show H1[H.size]? = some (vp_cell _ (_, .inr (.inl (xg 0 (xh_rs h.2.2.1 h.1.length) h.1.length))))
    rw [xh_rs_s, e1]; rfl
  | char => exact absurd ht (by decide)
  | float => exact absurd ht (by decide)
  | double => exact absurd ht (by decide)
  | short => exact absurd ht (by decide)
theorem xa_newq (hexec : p.tables.exec = Jvm.exec) (hb : c.code = cc) {own : String} {index : Nat} (hown : s.vm.findClass own = some m.cls) (hclink : (Cond.classLink own index RX7).before args s = true) (hover : (Cond.arrayOver (.object RX7)).before args s = true) (hK : va_K D vwCl (xh_ts cy) s) (hat : xh_at D cy ad A h H) (hS : va_S A H0 H locs) (hA : ∀ q, H0.size ≤ q → A q)
    {z : Int32} (hz : ¬ z < 0) (hz2 : z.toNatClampNeg ≤ 1000000) (hcells : cells + 1 ≤ R.cells) (hslots : slots + z.toNatClampNeg ≤ R.slots) (hdg : decode cc pc = .ok (.anewarray index, 3))
    (kk : ∀ (H1 : Heap), xh_at D cy ad A (xh_nw h (5, z.toNatClampNeg)) H1 → va_S A H0 H1 locs → W p l e R s m args below meth c H1 locs (cells + 1) (slots + z.toNatClampNeg) Q (F0 m (pc + 3) ls (.ref (ad h.1.length) :: rest))) : W p l e R s m args below meth c H locs cells slots Q (F0 m pc ls (.int z :: rest)) := by
  have h0 : ad h.1.length = H.size := hat.2.2 0
  rw [h0] at kk
  refine W.anew hexec hb hown hclink hover rfl hdg rfl hz (by omega) hcells hslots fun cA kA comp hNm hk1 hk2 hk3 => ?_
  have hcA : cA = cy 5 := by
    obtain ⟨_, _, _, _, _, h4⟩ := (hK.2 4 _ rfl).2
    exact Option.some.inj (hNm.symm.trans h4)
  subst hcA
  have o1 : ∀ q : Nat, q < H.size → (H.push ({ cls := cy 5, slots := Array.replicate z.toNatClampNeg .null, vm := .none } : Cell))[q]? = H[q]? := fun q hq => by rw [Array.getElem?_push, if_neg (Nat.ne_of_lt hq)]
  refine kk _ (hat.new ?_ o1 (by simp) (hA _ hS.1)) ⟨Nat.le_trans hS.1 (by simp), fun x h1 h2 => (o1 x (Nat.lt_of_lt_of_le h1 hS.1)).trans (hS.2.1 x h1 h2), hS.2.2⟩
  show (H.push _)[H.size]? = some (vp_cell (cy 5) (_, .inr (.inr (.inr (.inr (fun j => (xg none (xh_rs h.2.2.2 h.1.length) h.1.length j).map ad))))))
  rw [xh_rs_s, vp_cell_q, Array.getElem?_push, if_pos rfl, arrV_new]
  rfl
end XN
end
