section XB2
theorem a_fp0 {h : xh_H} : a_fp [] h := fun _ hq => nomatch hq
def bc_u (x n : Int32) : Int32 := (x.toUInt32 >>> (n.toUInt32 &&& Int32.toUInt32 31)).toInt32
def bc_1 (x : Int32) : Int32 := x - (bc_u x 1 &&& 1431655765)
def bc_2 (x : Int32) : Int32 := (x &&& 858993459) + (bc_u x 2 &&& 858993459)
def bc_3 (x : Int32) : Int32 := (x + bc_u x 4) &&& 252645135
def bc_4 (x : Int32) : Int32 := x + bc_u x 8
def bc_5 (x : Int32) : Int32 := x + bc_u x 16
def bc (x : Int32) : Int32 := bc_5 (bc_4 (bc_3 (bc_2 (bc_1 x)))) &&& 63
/-- Integer.bitCount of a set -/
def aC_bit : aC := (xi_J6_bitCount_0f7a4, 0, [(0, 0, 4095, none, [], [])], [(some (0, 0, 12, none, [], []), [])], [], [])
theorem bc_b : ((List.range 4096).all fun k => decide (0 ≤ (bc (nI k)).toInt) && decide ((bc (nI k)).toInt ≤ 12)) = true := by decide +kernel
set_option maxRecDepth 100000 in
set_option maxHeartbeats 4000000 in
theorem bc_run (d : Nat) (x : Int32) (h : xh_H) : xR none d xi_J6_bitCount_0f7a4 xmi_J6_bitCount_0f7a4 (0, [(0, .int x)], [], h, 0, 0) (some (.int (bc x)), h, 0, 0) := by
  refine xR_u (stop := 10) 20 d _ _ rfl ?_
  change xR none d xi_J6_bitCount_0f7a4 xmi_J6_bitCount_0f7a4 (10, [(0, .int (bc_1 x))], [], h, 0, 0) _
  refine xR_u (stop := 24) 20 d _ _ rfl ?_
  change xR none d xi_J6_bitCount_0f7a4 xmi_J6_bitCount_0f7a4 (24, [(0, .int (bc_2 (bc_1 x)))], [], h, 0, 0) _
  refine xR_u (stop := 34) 20 d _ _ rfl ?_
  change xR none d xi_J6_bitCount_0f7a4 xmi_J6_bitCount_0f7a4 (34, [(0, .int (bc_3 (bc_2 (bc_1 x))))], [], h, 0, 0) _
  refine xR_u (stop := 41) 20 d _ _ rfl ?_
  change xR none d xi_J6_bitCount_0f7a4 xmi_J6_bitCount_0f7a4 (41, [(0, .int (bc_4 (bc_3 (bc_2 (bc_1 x)))))], [], h, 0, 0) _
  refine xR_u (stop := 48) 20 d _ _ rfl ?_
  change xR none d xi_J6_bitCount_0f7a4 xmi_J6_bitCount_0f7a4 (48, [(0, .int (bc_5 (bc_4 (bc_3 (bc_2 (bc_1 x))))))], [], h, 0, 0) _
  exact ⟨10, rfl⟩
theorem as_bit {tb : aT} : a_spec tb aC_bit := by
  intro d mi vs h σ _ hM hi hn ha _
  cases hM
  match vs, ha with
  | [v], ha =>
    obtain ⟨⟨x, rfl, h1, h2, -⟩, -⟩ := ha
    have h1 : (0 : Int) ≤ x.toInt := h1
    have h2 : x.toInt ≤ 4095 := h2
    refine ⟨some (.int (bc x)), h, bc_run d x h, hi, rfl, ⟨_, List.mem_singleton.mpr rfl, ⟨_, rfl, ?_⟩, a_fp0⟩, fun _ _ _ _ => rfl⟩
    obtain ⟨e, -⟩ := a_nIx (y := x) h1
    have g := List.all_eq_true.mp bc_b x.toInt.toNat (List.mem_range.mpr (by omega))
    obtain ⟨g1, g2⟩ := xw_bb g
    rw [← e] at g1 g2
    exact a_vi rfl (a_I_ok (of_decide_eq_true g1) (of_decide_eq_true g2))
end XB2
