section XCK
def xm_b (mi : xm_M) (w2 w3 w4 : Nat × Nat) : Bool :=
  (xw_b w2.1 w2.2 (.initialized mi.2.1.cls) && (decide (mi.1 = mi.2.1.cls) && (_root_.Jvm.plainName mi.2.1.cls && (decide (mi.2.1.cls ≠ "java/lang/invoke/MethodHandle" ∧ mi.2.1.cls ≠ "java/lang/invoke/VarHandle" ∧ (parseMethodDescriptor mi.2.1.desc).map (fun d => d.parameters.length) = some mi.2.2.2.2.2.2.1) && (Nat.ble mi.2.2.2.1 20 && (match mi.2.2.2.2.2.1 with
    | 0 => xw_b w3.1 w3.2 (.instanceMethod mi.2.1) && (xw_b w4.1 w4.2 (.selects mi.2.1.cls mi.2.1 mi.2.1) && (match vwCl[mi.2.2.2.2.2.2.2]? with
      | some q => decide (q.1 = mi.2.1.cls)
      | none => false))
    | 1 => xw_b w3.1 w3.2 (.static mi.2.1)
    | 2 => xw_b w3.1 w3.2 (.instanceMethod mi.2.1) && (decide (mi.2.1.name = "<init>") && decide (mi.2.2.2.2.1 = none))
    | _ => false))))))
theorem xm_b_ok {mi : xm_M} {w2 w3 w4 : Nat × Nat} (h : xm_b mi w2 w3 w4 = true) (hw : Cond.code mi.2.1 mi.2.2.1 mi.2.2.2.1 mi.2.2.2.2.1 ∈ xG) : xm_ok mi := by
  unfold xm_b at h
  obtain ⟨a2, h⟩ := xw_bb h
  obtain ⟨a3, h⟩ := xw_bb h
  obtain ⟨a4, h⟩ := xw_bb h
  obtain ⟨a5, h⟩ := xw_bb h
  obtain ⟨a6, h⟩ := xw_bb h
  refine ⟨hw, xw_in a2, of_decide_eq_true a3, a4, of_decide_eq_true a5, xw_ble a6, fun z => ?_, fun z => ?_, fun z => ?_⟩
  · rw [z] at h
    try dsimp only at h
    obtain ⟨b1, h⟩ := xw_bb h
    obtain ⟨b2, h⟩ := xw_bb h
    refine ⟨xw_in b1, xw_in b2, ?_⟩
    cases hq : vwCl[mi.2.2.2.2.2.2.2]? with
    | none => rw [hq] at h; cases h
    | some q =>
      rw [hq] at h
      obtain ⟨C, T, N⟩ := q
      exact ⟨T, N, by rw [← of_decide_eq_true h]⟩
  · rw [z] at h
    exact xw_in h
  · rw [z] at h
    try dsimp only at h
    obtain ⟨b1, h⟩ := xw_bb h
    obtain ⟨b2, h⟩ := xw_bb h
    exact ⟨xw_in b1, of_decide_eq_true b2, of_decide_eq_true h⟩
def xc_b (mi : xm_M) (cd : List (List (Option xr_R))) (lo n : Nat) : Bool := (List.range n).all (fun j => match xcl cd (lo + j) with
  | some r => xr_b mi.1 (xm_ini mi) mi.2.2.1 (lo + j) r && xr_c xM mi.1 r
  | none => true)
def xc_up (mi : xm_M) (cd : List (List (Option xr_R))) (N : Nat) : Prop := ∀ (pc : Nat) (r : xr_R), pc < N → xcl cd pc = some r → xr_b mi.1 (xm_ini mi) mi.2.2.1 pc r = true ∧ xr_c xM mi.1 r = true
theorem xc_up_0 {mi : xm_M} {cd : List (List (Option xr_R))} : xc_up mi cd 0 := fun pc r h => absurd h (Nat.not_lt_zero pc)
theorem xc_up_s {mi : xm_M} {cd : List (List (Option xr_R))} {lo n : Nat} (h : xc_up mi cd lo) (hb : xc_b mi cd lo n = true) : xc_up mi cd (lo + n) := by
  intro pc r hp hr
  by_cases hl : pc < lo
  · exact h pc r hl hr
  · have h1 := List.all_eq_true.mp hb (pc - lo) (List.mem_range.mpr (by omega))
    rw [show lo + (pc - lo) = pc by omega, hr] at h1
    exact xw_bb h1
theorem xc_up_e {mi : xm_M} {cd : List (List (Option xr_R))} {N : Nat} (h : xc_up mi cd N) (hN : cd.length * 16 ≤ N) : ∀ (pc : Nat) (r : xr_R), xcl cd pc = some r → xr_b mi.1 (xm_ini mi) mi.2.2.1 pc r = true ∧ xr_c xM mi.1 r = true := by
  intro pc r hr
  by_cases hp : pc < N
  · exact h pc r hp hr
  · have hq : cd.length ≤ pc / 16 := by omega
    unfold xcl at hr
    have : cd.getD (pc / 16) [] = [] := by rw [List.getD_eq_getElem?_getD, List.getElem?_eq_none hq]; rfl
    rw [this] at hr
    cases hr
theorem xw_in2 {K i : Nat} {w : Cond} (h : (xtb K)[i]? = some w) (hg : goodWord w = true) : w ∈ xG := List.mem_filter.mpr ⟨xtb_in (List.mem_of_getElem? h), hg⟩
end XCK
