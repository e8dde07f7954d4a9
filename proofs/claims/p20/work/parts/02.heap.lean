section XH
/-- ABSTRACT HEAPS: the cells' shapes; what they hold: ints, longs, references (by the numbers of the cells). A shape (0, ci): an object of vwCl's row ci; (1, n) int[n], (2, n) byte[n], (3, n) boolean[n], (4, n) long[n], (5, n) Statute[n] -/
abbrev xh_H : Type := List (Nat × Nat) × List (List Int32) × List (List Int64) × List (List (Option Nat))
/-- rows that go on for ever: behind their end lies z -/
def xg {α : Type} (z : α) (L : List (List α)) (c k : Nat) : α := (L.getD c []).getD k z
def xsr {α : Type} (z : α) : List α → Nat → α → List α
  | [], 0, x => [x]
  | [], k + 1, x => z :: xsr z [] k x
  | _ :: t, 0, x => x :: t
  | a :: t, k + 1, x => a :: xsr z t k x
theorem xsr_s {α : Type} (z : α) (x : α) : ∀ (k : Nat) (l : List α), (xsr z l k x).getD k z = x := by
  intro k
  induction k with
  | zero => intro l; cases l <;> rfl
  | succ k ih =>
    intro l
    cases l with
    | nil => show (xsr z [] k x).getD k z = x; exact ih []
    | cons a t => show (xsr z t k x).getD k z = x; exact ih t
theorem xsr_o {α : Type} (z : α) (x : α) : ∀ (k j : Nat) (l : List α), j ≠ k → (xsr z l k x).getD j z = l.getD j z := by
  intro k
  induction k with
  | zero =>
    intro j l h
    cases j with
    | zero => exact absurd rfl h
    | succ j => cases l <;> rfl
  | succ k ih =>
    intro j l h
    cases l with
    | nil =>
      cases j with
      | zero => rfl
      | succ j => exact (ih j [] (fun e => h (by rw [e]))).trans rfl
    | cons a t =>
      cases j with
      | zero => rfl
      | succ j => exact ih j t (fun e => h (by rw [e]))
def xh_up {α : Type} (z : α) (f : List (List α)) (c k : Nat) (x : α) : List (List α) := xsr [] f c (xsr z (f.getD c []) k x)
def xh_rs {α : Type} (f : List (List α)) (n : Nat) : List (List α) := xsr [] f n []
theorem xh_up_o {α : Type} {z : α} {f : List (List α)} {c k c' : Nat} {x : α} (h : c' ≠ c) : xg z (xh_up z f c k x) c' = xg z f c' := by
  funext k'
  unfold xg xh_up
  rw [xsr_o [] _ c c' f h]
theorem xh_up_k {α : Type} {z : α} {f : List (List α)} {c k k' : Nat} {x : α} (h : k' ≠ k) : xg z (xh_up z f c k x) c k' = xg z f c k' := by
  unfold xg xh_up
  rw [xsr_s, xsr_o z x k k' _ h]
theorem xh_up_s {α : Type} {z : α} {f : List (List α)} {c k : Nat} {x : α} : xg z (xh_up z f c k x) c k = x := by
  unfold xg xh_up
  rw [xsr_s, xsr_s]
theorem xh_rs_o {α : Type} {z : α} {f : List (List α)} {n c : Nat} (h : c ≠ n) : xg z (xh_rs f n) c = xg z f c := by
  funext k
  unfold xg xh_rs
  rw [xsr_o [] _ n c f h]
theorem xh_rs_s {α : Type} {z : α} {f : List (List α)} {n : Nat} : xg z (xh_rs f n) n = fun _ => z := by
  funext k
  unfold xg xh_rs
  rw [xsr_s]
  rfl
def xh_tl : List (Nat → FieldType) := [tyX0, tyX1, tyX2, tyX3, tyX4, tyX5, tyX6, tyX7, tyX8, tyX9, tyX10]
def xh_ty (ci k : Nat) : FieldType := (xh_tl.getD ci tyX0) k
def xh_N (ci : Nat) : Nat := ([7, 4, 13, 4, 10, 16, 7, 2, 2, 12, 64] : List Nat).getD ci 0
/-- what a field holds, in the machine's words and in ours -/
def xh_fv (ad : Nat → Nat) (h : xh_H) (c : Nat) (ty : FieldType) (k : Nat) : Value := match ty with
  | .long => .long (xg 0 h.2.2.1 c k)
  | .object _ => va_rf ((xg none h.2.2.2 c k).map ad)
  | .array _ => va_rf ((xg none h.2.2.2 c k).map ad)
  | _ => .int (xg 0 h.2.1 c k)
def xh_get (h : xh_H) (c : Nat) (ty : FieldType) (k : Nat) : Value := match ty with
  | .long => .long (xg 0 h.2.2.1 c k)
  | .object _ => va_rf (xg none h.2.2.2 c k)
  | .array _ => va_rf (xg none h.2.2.2 c k)
  | _ => .int (xg 0 h.2.1 c k)
/-- our values in the machine's words: a cell by its address; a float stands for a thing that is not of ours (0: the script; the others: String constants) -/
def xh_v (ad sp : Nat → Nat) : Value → Value
  | .ref k => .ref (ad k)
  | .float u => .ref (sp u.toNat)
  | v => v
theorem xh_v_rf (ad sp : Nat → Nat) (r : Option Nat) : xh_v ad sp (va_rf r) = va_rf (r.map ad) := by cases r <;> rfl
theorem xh_v_get (ad sp : Nat → Nat) (h : xh_H) (c : Nat) (ty : FieldType) (k : Nat) : xh_v ad sp (xh_get h c ty k) = xh_fv ad h c ty k := by
  cases ty <;> first | rfl | exact xh_v_rf ad sp _
theorem xh_v_cat (ad sp : Nat → Nat) (v : Value) : (xh_v ad sp v).category = v.category := by cases v <;> rfl
def xh_e (ad : Nat → Nat) (cy : Nat → ClassId) (h : xh_H) (c : Nat) (sh : Nat × Nat) : va_E := match sh.1 with
  | 0 => .inr (sh.2, (List.range (xh_N sh.2)).map (fun k => xh_fv ad h c (xh_ty sh.2 k) k))
  | 4 => .inl (cy 4, sh.2, .inr (.inl (xg 0 h.2.2.1 c)))
  | 5 => .inl (cy 5, sh.2, .inr (.inr (.inr (.inr (fun j => (xg none h.2.2.2 c j).map ad)))))
  | k => .inl (cy k, sh.2, .inl (xg 0 h.2.1 c))
def xh_ws (ad : Nat → Nat) (cy : Nat → ClassId) (h : xh_H) : va_W := h.1.mapIdx (fun c sh => (ad c, xh_e ad cy h c sh))
theorem xh_ws_get (ad : Nat → Nat) (cy : Nat → ClassId) (h : xh_H) (c : Nat) : (xh_ws ad cy h)[c]? = (h.1[c]?).map (fun sh => (ad c, xh_e ad cy h c sh)) := by
  unfold xh_ws
  rw [List.getElem?_mapIdx]
theorem xh_ws_at {ad : Nat → Nat} {cy : Nat → ClassId} {h : xh_H} {c : Nat} {sh : Nat × Nat} (hc : h.1[c]? = some sh) : (xh_ws ad cy h)[c]? = some (ad c, xh_e ad cy h c sh) := by
  rw [xh_ws_get, hc]; rfl
theorem xh_ws_len (ad : Nat → Nat) (cy : Nat → ClassId) (h : xh_H) : (xh_ws ad cy h).length = h.1.length := by simp [xh_ws]
theorem xh_e_congr {ad : Nat → Nat} {cy : Nat → ClassId} {h h' : xh_H} {c : Nat} {sh : Nat × Nat} (hi : xg 0 h'.2.1 c = xg 0 h.2.1 c) (hl : xg 0 h'.2.2.1 c = xg 0 h.2.2.1 c) (hr : xg none h'.2.2.2 c = xg none h.2.2.2 c) : xh_e ad cy h' c sh = xh_e ad cy h c sh := by
  have hf : ∀ ty k, xh_fv ad h' c ty k = xh_fv ad h c ty k := by intro ty k; cases ty <;> simp [xh_fv, hi, hl, hr]
  unfold xh_e
  split <;> simp [hf, hi, hl, hr]
/-- one cell is written -/
theorem xh_ws_set {ad : Nat → Nat} {cy : Nat → ClassId} {h h' : xh_H} {c : Nat} {sh : Nat × Nat} (h1 : h'.1 = h.1) (ho : ∀ c', c' ≠ c → xg 0 h'.2.1 c' = xg 0 h.2.1 c' ∧ xg 0 h'.2.2.1 c' = xg 0 h.2.2.1 c' ∧ xg none h'.2.2.2 c' = xg none h.2.2.2 c') (hc : h.1[c]? = some sh) : (xh_ws ad cy h).set c (ad c, xh_e ad cy h' c sh) = xh_ws ad cy h' := by
  apply List.ext_getElem?
  intro j
  rw [List.getElem?_set, xh_ws_get, xh_ws_get, h1]
  by_cases hj : c = j
  · subst hj
    have hl : c < (xh_ws ad cy h).length := by rw [xh_ws_len]; exact (List.getElem?_eq_some_iff.mp hc).1
    rw [if_pos rfl, if_pos hl, hc]; rfl
  · rw [if_neg hj]
    cases hq : h.1[j]? with
    | none => rfl
    | some q =>
      obtain ⟨a, b, d⟩ := ho j (fun z => hj z.symm)
      simp [xh_e_congr a b d]
/-- one cell is made -/
theorem xh_ws_new {ad : Nat → Nat} {cy : Nat → ClassId} {h : xh_H} {sh : Nat × Nat} {h' : xh_H} (h1 : h'.1 = h.1 ++ [sh]) (ho : ∀ c', c' ≠ h.1.length → xg 0 h'.2.1 c' = xg 0 h.2.1 c' ∧ xg 0 h'.2.2.1 c' = xg 0 h.2.2.1 c' ∧ xg none h'.2.2.2 c' = xg none h.2.2.2 c') : xh_ws ad cy h' = xh_ws ad cy h ++ [(ad h.1.length, xh_e ad cy h' h.1.length sh)] := by
  apply List.ext_getElem?
  intro j
  rw [xh_ws_get, h1]
  by_cases hj : j < h.1.length
  · rw [List.getElem?_append_left hj, List.getElem?_append_left (by rw [xh_ws_len]; exact hj), xh_ws_get]
    cases hq : h.1[j]? with
    | none => rfl
    | some q =>
      obtain ⟨a, b, d⟩ := ho j (by omega)
      simp [xh_e_congr a b d]
  · rw [List.getElem?_append_right (by omega), List.getElem?_append_right (by rw [xh_ws_len]; omega), xh_ws_len]
    by_cases hk : j = h.1.length
    · subst hk; simp
    · rw [List.getElem?_eq_none (by simp; omega), List.getElem?_eq_none (by simp; omega)]; rfl
theorem xh_fs_set {f g : Nat → Value} {N k : Nat} {v : Value} (hk : g k = v) (ho : ∀ j, j ≠ k → g j = f j) : ((List.range N).map f).set k v = (List.range N).map g := by
  apply List.ext_getElem?
  intro j
  rw [List.getElem?_set]
  by_cases hj : k = j
  · subst hj
    by_cases hN : k < N
    · simp [hN, hk]
    · simp [hN]
  · rw [if_neg hj]
    by_cases hN : j < N
    · simp [hN, ho j (fun z => hj z.symm)]
    · simp [hN]
theorem xh_fs_get {f : Nat → Value} {N k : Nat} (hk : k < N) : ((List.range N).map f)[k]? = some (f k) := by simp [hk]
/-- the machine's state, in our words: the cells stand at their addresses, the next cell comes at the heap's end -/
def xh_at (D : va_G) (cy : Nat → ClassId) (ad : Nat → Nat) (A : Nat → Prop) (h : xh_H) (H : Heap) : Prop :=
  va_P D vwCl (xh_ws ad cy h) H ∧ va_D A (xh_ws ad cy h) ∧ ∀ j : Nat, ad (h.1.length + j) = H.size + j
def xh_ts (cy : Nat → ClassId) : List (ClassId × FieldType) := [(cy 1, .int), (cy 2, .byte), (cy 3, .boolean), (cy 4, .long), (cy 5, .object RX7)]
/-! the locals, by their numbers -/
def xl_get : List (Nat × Value) → Nat → Option Value
  | [], _ => none
  | q :: t, i => cond (Nat.beq q.1 i) (some q.2) (xl_get t i)
theorem xl_get_mem {lv : List (Nat × Value)} {i : Nat} {v : Value} (h : xl_get lv i = some v) : (i, v) ∈ lv := by
  induction lv with
  | nil => cases h
  | cons q t ih =>
    unfold xl_get at h
    cases hb : Nat.beq q.1 i with
    | true =>
      rw [hb] at h
      have h1 := Nat.eq_of_beq_eq_true hb
      cases h
      subst h1
      exact List.mem_cons_self
    | false => rw [hb] at h; exact List.mem_cons_of_mem _ (ih h)
def xl_1 (lv : List (Nat × Value)) (i : Nat) (v : Value) : List (Nat × Value) := (i, v) :: lv.filter (fun q => !(q.1 == i) && !(q.1 + 1 == i && q.2.category == 2))
def xl_2 (lv : List (Nat × Value)) (i : Nat) (v : Value) : List (Nat × Value) := (i, v) :: lv.filter (fun q => !(q.1 == i) && (!(q.1 == i + 1) && !(q.1 + 1 == i && q.2.category == 2)))
def xl_m (ad sp : Nat → Nat) (lv : List (Nat × Value)) : List (Nat × Value) := lv.map (fun q => (q.1, xh_v ad sp q.2))
theorem xl_m1 (ad sp : Nat → Nat) (lv : List (Nat × Value)) (i : Nat) (v : Value) : (i, xh_v ad sp v) :: (xl_m ad sp lv).filter (fun q => !(q.1 == i) && !(q.1 + 1 == i && q.2.category == 2)) = xl_m ad sp (xl_1 lv i v) := by
  simp [xl_m, xl_1, List.filter_map, Function.comp_def, xh_v_cat]
theorem xl_m2 (ad sp : Nat → Nat) (lv : List (Nat × Value)) (i : Nat) (v : Value) : (i, xh_v ad sp v) :: (xl_m ad sp lv).filter (fun q => !(q.1 == i) && (!(q.1 == i + 1) && !(q.1 + 1 == i && q.2.category == 2))) = xl_m ad sp (xl_2 lv i v) := by
  simp [xl_m, xl_2, List.filter_map, Function.comp_def, xh_v_cat]
theorem xl_at {ad sp : Nat → Nat} {ls : Array Slot} {nL : Nat} {lv : List (Nat × Value)} (h : lv_has ls nL (xl_m ad sp lv)) {i : Nat} {v : Value} (hv : xl_get lv i = some v) : ls[i]? = some (.val (xh_v ad sp v)) :=
  h.2.2 (i, xh_v ad sp v) (List.mem_map.mpr ⟨(i, v), xl_get_mem hv, rfl⟩)
theorem xl_ix {ad sp : Nat → Nat} {lv : List (Nat × Value)} {i : Nat} {v : Value} (hv : xl_get lv i = some v) : ∃ k : Nat, (xl_m ad sp lv)[k]? = some (i, xh_v ad sp v) :=
  List.getElem?_of_mem (List.mem_map.mpr ⟨(i, v), xl_get_mem hv, rfl⟩)
/-! what lies on the stack -/
def xp_i {α : Type} (st : List Value) (f : Int32 → List Value → Option α) : Option α := match st with
  | .int x :: r => f x r
  | _ => none
def xp_ii {α : Type} (st : List Value) (f : Int32 → Int32 → List Value → Option α) : Option α := match st with
  | .int y :: .int x :: r => f y x r
  | _ => none
def xp_l {α : Type} (st : List Value) (f : Int64 → List Value → Option α) : Option α := match st with
  | .long x :: r => f x r
  | _ => none
def xp_ll {α : Type} (st : List Value) (f : Int64 → Int64 → List Value → Option α) : Option α := match st with
  | .long y :: .long x :: r => f y x r
  | _ => none
def xp_il {α : Type} (st : List Value) (f : Int32 → Int64 → List Value → Option α) : Option α := match st with
  | .int y :: .long x :: r => f y x r
  | _ => none
def xp_r {α : Type} (st : List Value) (f : Nat → List Value → Option α) : Option α := match st with
  | .ref a :: r => f a r
  | _ => none
def xp_ir {α : Type} (st : List Value) (f : Int32 → Nat → List Value → Option α) : Option α := match st with
  | .int i :: .ref a :: r => f i a r
  | _ => none
def xp_iir {α : Type} (st : List Value) (f : Int32 → Int32 → Nat → List Value → Option α) : Option α := match st with
  | .int x :: .int i :: .ref a :: r => f x i a r
  | _ => none
def xp_lir {α : Type} (st : List Value) (f : Int64 → Int32 → Nat → List Value → Option α) : Option α := match st with
  | .long x :: .int i :: .ref a :: r => f x i a r
  | _ => none
def xp_rir {α : Type} (st : List Value) (f : Nat → Int32 → Nat → List Value → Option α) : Option α := match st with
  | .ref x :: .int i :: .ref a :: r => f x i a r
  | _ => none
def xp_vr {α : Type} (st : List Value) (f : Value → Nat → List Value → Option α) : Option α := match st with
  | v :: .ref a :: r => f v a r
  | _ => none
theorem xp_i_v {α : Type} {st : List Value} {f : Int32 → List Value → Option α} {o : α} (h : xp_i st f = some o) : ∃ x r, st = .int x :: r ∧ f x r = some o := by
  unfold xp_i at h; split at h
  · exact ⟨_, _, rfl, h⟩
  · cases h
theorem xp_ii_v {α : Type} {st : List Value} {f : Int32 → Int32 → List Value → Option α} {o : α} (h : xp_ii st f = some o) : ∃ y x r, st = .int y :: .int x :: r ∧ f y x r = some o := by
  unfold xp_ii at h; split at h
  · exact ⟨_, _, _, rfl, h⟩
  · cases h
theorem xp_l_v {α : Type} {st : List Value} {f : Int64 → List Value → Option α} {o : α} (h : xp_l st f = some o) : ∃ x r, st = .long x :: r ∧ f x r = some o := by
  unfold xp_l at h; split at h
  · exact ⟨_, _, rfl, h⟩
  · cases h
theorem xp_ll_v {α : Type} {st : List Value} {f : Int64 → Int64 → List Value → Option α} {o : α} (h : xp_ll st f = some o) : ∃ y x r, st = .long y :: .long x :: r ∧ f y x r = some o := by
  unfold xp_ll at h; split at h
  · exact ⟨_, _, _, rfl, h⟩
  · cases h
theorem xp_il_v {α : Type} {st : List Value} {f : Int32 → Int64 → List Value → Option α} {o : α} (h : xp_il st f = some o) : ∃ y x r, st = .int y :: .long x :: r ∧ f y x r = some o := by
  unfold xp_il at h; split at h
  · exact ⟨_, _, _, rfl, h⟩
  · cases h
theorem xp_r_v {α : Type} {st : List Value} {f : Nat → List Value → Option α} {o : α} (h : xp_r st f = some o) : ∃ a r, st = .ref a :: r ∧ f a r = some o := by
  unfold xp_r at h; split at h
  · exact ⟨_, _, rfl, h⟩
  · cases h
theorem xp_ir_v {α : Type} {st : List Value} {f : Int32 → Nat → List Value → Option α} {o : α} (h : xp_ir st f = some o) : ∃ i a r, st = .int i :: .ref a :: r ∧ f i a r = some o := by
  unfold xp_ir at h; split at h
  · exact ⟨_, _, _, rfl, h⟩
  · cases h
theorem xp_iir_v {α : Type} {st : List Value} {f : Int32 → Int32 → Nat → List Value → Option α} {o : α} (h : xp_iir st f = some o) : ∃ x i a r, st = .int x :: .int i :: .ref a :: r ∧ f x i a r = some o := by
  unfold xp_iir at h; split at h
  · exact ⟨_, _, _, _, rfl, h⟩
  · cases h
theorem xp_lir_v {α : Type} {st : List Value} {f : Int64 → Int32 → Nat → List Value → Option α} {o : α} (h : xp_lir st f = some o) : ∃ x i a r, st = .long x :: .int i :: .ref a :: r ∧ f x i a r = some o := by
  unfold xp_lir at h; split at h
  · exact ⟨_, _, _, _, rfl, h⟩
  · cases h
theorem xp_rir_v {α : Type} {st : List Value} {f : Nat → Int32 → Nat → List Value → Option α} {o : α} (h : xp_rir st f = some o) : ∃ x i a r, st = .ref x :: .int i :: .ref a :: r ∧ f x i a r = some o := by
  unfold xp_rir at h; split at h
  · exact ⟨_, _, _, _, rfl, h⟩
  · cases h
theorem xp_vr_v {α : Type} {st : List Value} {f : Value → Nat → List Value → Option α} {o : α} (h : xp_vr st f = some o) : ∃ v a r, st = v :: .ref a :: r ∧ f v a r = some o := by
  unfold xp_vr at h; split at h
  · exact ⟨_, _, _, rfl, h⟩
  · cases h
end XH
