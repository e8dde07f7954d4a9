section XFM
/-- the methods that leave it -/
def fzK : Nat := 883423532389192160194162127762642304890647230128366654819916615791804414
def fzM (mid : Nat) : Bool := Nat.testBit fzK mid
def okc (r : xr_R) : Bool := match r.1 with
  | .invokevirtual _ => fzM r.2.2.1 || (xM r.2.2.1).isNone
  | .invokestatic _ => fzM r.2.2.1 || !Nat.beq r.2.2.2.1 0
  | .invokespecial _ => fzM r.2.2.1 || !Nat.beq r.2.2.2.1 0
  | _ => true
def okrow (o : Option xr_R) : Bool := match o with
  | none => true
  | some r => okr r && okc r
def okcode (cd : List (List (Option xr_R))) : Bool := cd.all (fun l => l.all okrow)
def okall : Bool := (List.range xc_t.length).all (fun B => (List.range 16).all (fun i => !fzM (16 * B + i) || okcode ((xc_t.getD B []).getD i [])))
set_option maxRecDepth 100000 in
theorem okall_t : okall = true := by decide +kernel
theorem getD_mem {α : Type} {l : List α} {n : Nat} {d : α} : l.getD n d = d ∨ l.getD n d ∈ l := by
  rw [List.getD_eq_getElem?_getD]
  cases h : l[n]? with
  | none => exact Or.inl rfl
  | some a => exact Or.inr (List.mem_of_getElem? h)
theorem okcode_r {cd : List (List (Option xr_R))} (h : okcode cd = true) {pc : Nat} {r : xr_R} (e : xcl cd pc = some r) : okr r = true ∧ okc r = true := by
  unfold xcl at e
  have hl : ∀ l ∈ cd, l.all okrow = true := List.all_eq_true.mp h
  rcases getD_mem (l := cd.getD (pc / 16) []) (n := pc % 16) (d := none) with z | z
  · rw [e] at z; cases z
  · rw [e] at z
    rcases getD_mem (l := cd) (n := pc / 16) (d := []) with y | y
    · rw [y] at z; cases z
    · have := List.all_eq_true.mp (hl _ y) _ z
      exact xw_bb this
theorem fz_hM : ∀ mid pc r, fzM mid = true → xC mid pc = some r → okr r = true ∧ (xe_isr r.1 = false → ∀ st h t, xe_cl xM r st h = some t → fzM r.2.2.1 = true) := by
  intro mid pc r hm hr
  have ho : okcode ((xc_t.getD (mid / 16) []).getD (mid % 16) []) = true := by
    by_cases hB : mid / 16 < xc_t.length
    · have a := List.all_eq_true.mp okall_t (mid / 16) (List.mem_range.mpr hB)
      have b := List.all_eq_true.mp a (mid % 16) (List.mem_range.mpr (Nat.mod_lt _ (by decide)))
      rw [Nat.div_add_mod, hm] at b
      exact b
    · have e : xc_t.getD (mid / 16) [] = [] := by
        rw [List.getD_eq_getElem?_getD, List.getElem?_eq_none (by omega)]
        rfl
      rw [e]
      rfl
  obtain ⟨o1, o2⟩ := okcode_r ho hr
  refine ⟨o1, fun _ st h t hc => ?_⟩
  obtain ⟨i, len, ra, rb, rK, ri⟩ := r
  unfold xe_cl at hc
  cases hM : xM (i, len, ra, rb, rK, ri).2.2.1 with
  | none => rw [hM] at hc; cases hc
  | some m =>
    rw [hM] at hc
    have hM' : xM ra = some m := hM
    cases i
    case invokevirtual idx =>
      have o3 : (fzM ra || (xM ra).isNone) = true := o2
      rw [hM'] at o3
      simpa using o3
    case invokestatic idx =>
      have o3 : (fzM ra || !Nat.beq rb 0) = true := o2
      dsimp only at hc
      obtain ⟨c1, -⟩ := xw_c hc
      have c2 := (xw_bb c1).1
      rw [c2] at o3
      simpa using o3
    case invokespecial idx =>
      have o3 : (fzM ra || !Nat.beq rb 0) = true := o2
      dsimp only at hc
      split at hc
      · obtain ⟨c1, -⟩ := xw_c hc
        have c2 := (xw_bb c1).1
        rw [c2] at o3
        simpa using o3
      · cases hc
    all_goals cases hc
/-- every run of such a method leaves it -/
theorem fz_run {d mid : Nat} {mi : xm_M} {S : xs_S} {v : Option Value} {h' : xh_H} {c s : Nat} (hm : fzM mid = true) (k : xR none d mid mi S (v, h', c, s)) : Fz S.2.2.2.1 h' := by
  obtain ⟨f, e⟩ := k
  exact xe_x_fz fz_hM f d mid mi S v h' c s hm e
example : fzM xi_X9_share = true := by decide +kernel
end XFM
