section XBL
/-- an element of an int array, within the table's bounds -/
theorem a_el {tb : aT} {h : xh_H} {c n k : Nat} {lo hi : Int} (hi0 : a_inw tb h) (hn : 72 ≤ h.1.length) (hs : a_sh[c]? = some (1, n)) (hc : c < 72) (he : a_ent tb (1, n) c 0 = (0, lo, hi)) (hk : k < n) : lo ≤ (xg 0 h.2.1 c k).toInt ∧ (xg 0 h.2.1 c k).toInt ≤ hi := by
  have h1 := (a_rq_of hi0 hn).2.1 c _ hs
  have g := (hi0 c _ h1).2 k hk
  rw [a_tg_lt hc, a_ent0 (fun z => by cases z), he] at g
  exact g
theorem nI_dec (n : Nat) : nI (n + 1) + Int32.ofInt (-1) = nI n := by
  rw [nI_succ, Int32.add_assoc]
  exact Int32.add_zero _
set_option maxRecDepth 100000 in
set_option maxHeartbeats 4000000 in
theorem lo_loop {d : Nat} {h : xh_H} {s : Nat} (hq : a_rq a_tb h) (hi : a_inw a_tb h) (hs : s ≤ 11) : ∀ n : Nat, n ≤ s → ∃ w : Int32, 0 ≤ w.toInt ∧ w.toInt ≤ 71 ∧ xR none d xi_X5_lowest xmi_X5_lowest (4, [(2, .int (nI n + Int32.ofInt (-1))), (0, .ref 21), (1, .int (nI s))], [], h, 0, 0) (some (.int w), h, 0, 0) := by
  intro n
  induction n with
  | zero =>
    intro _
    have e := nI_toInt (n := s) (by omega)
    refine ⟨nI s, by omega, by omega, ?_⟩
    refine xa_to 36 [(2, .int (nI 0 + Int32.ofInt (-1))), (0, .ref 21), (1, .int (nI s))] [.int (nI s)] h [true] 20 hq rfl ⟨by decide, trivial⟩ (fun _ => ?_)
    exact xR_ret rfl rfl rfl
  | succ n ih =>
    intro hn
    have e1 : nI (n + 1) + Int32.ofInt (-1) = nI n := nI_dec n
    rw [e1]
    have ein : xe_in (nI n) 12 = true := a_xin (by rw [nI_toInt (by omega)]; omega) (by rw [nI_toInt (by omega)]; omega)
    have eb := a_el (k := n) (lo := -1) (hi := 60) hi hq.1 (show a_sh[26]? = some (1, 12) by decide) (by decide) (by decide +kernel) (by omega)
    have ecl : (nI n).toNatClampNeg = n := nI_clamp (by omega)
    have elt : xe_c .lt (nI n) 0 = false := decide_eq_false (by rw [Int32.lt_iff_toInt_lt, nI_toInt (by omega)]; show ¬ (n : Int) < 0; omega)
    cases hc : xe_c .eq (xg 0 h.2.1 26 n) (Int32.ofInt (-1)) with
    | true =>
      obtain ⟨w, w1, w2, k⟩ := ih (by omega)
      refine ⟨w, w1, w2, ?_⟩
      refine xa_to 4 [(2, .int (nI n + Int32.ofInt (-1))), (0, .ref 21), (1, .int (nI s))] [] h [false, true] 20 hq rfl ⟨elt, ein, by rw [ecl]; exact hc, trivial⟩ (fun _ => ?_)
      exact k
    | false =>
      have hne : (xg 0 h.2.1 26 n).toInt ≠ -1 := fun z => by
        have : xg 0 h.2.1 26 n = Int32.ofInt (-1) := Int32.toInt_inj.mp z
        rw [this] at hc
        revert hc
        decide
      have en := nI_toInt (n := n) (by omega)
      have es := nI_toInt (n := s) (by omega)
      have a1 : (xg 0 h.2.1 26 n + nI s).toInt = (xg 0 h.2.1 26 n).toInt + (nI s).toInt := ar_add (by omega) (by omega)
      have a2 : (xg 0 h.2.1 26 n + nI s - nI n).toInt = (xg 0 h.2.1 26 n + nI s).toInt - (nI n).toInt := ar_sub (by omega) (by omega)
      refine ⟨xg 0 h.2.1 26 n + nI s - nI n, by omega, by omega, ?_⟩
      refine xa_to 28 [(2, .int (nI n)), (0, .ref 21), (1, .int (nI s))] [.int (xg 0 h.2.1 26 (nI n).toNatClampNeg + nI s - nI n)] h [false, false] 30 hq rfl ⟨elt, ein, by rw [ecl]; exact hc, ein, trivial⟩ (fun _ => ?_)
      rw [ecl]
      exact xR_ret rfl rfl rfl
set_option maxRecDepth 100000 in
theorem as_h_X5_lowest : a_spec a_tb aC_h_X5_lowest := by
  intro d mi vs h σ _ hM hi hn ha _
  cases hM
  match vs, ha with
  | [v0, v1], ha =>
    obtain ⟨⟨q, rfl, hq⟩, ⟨x, rfl, h1, h2, -⟩, -⟩ := ha
    have h1 : (0 : Int) ≤ x.toInt := h1
    have h2 : x.toInt ≤ 11 := h2
    have eq : q = 21 := a_r_ob (t := 21) (by decide) hq
    subst eq
    obtain ⟨ex, -⟩ := a_nIx (y := x) h1
    obtain ⟨w, w1, w2, k⟩ := lo_loop (d := d) (s := x.toInt.toNat) (a_rq_of hi.1 hn) hi.1 (by omega) x.toInt.toNat (Nat.le_refl _)
    refine ⟨some (.int w), h, ?_, hi, rfl, ⟨_, List.mem_singleton.mpr rfl, ⟨_, rfl, a_vi rfl (a_I_ok w1 w2)⟩, a_fp0⟩, fun _ _ _ _ => rfl⟩
    rw [← ex] at k
    have e1 : x - Int32.ofInt 1 = x + Int32.ofInt (-1) := Int32.sub_eq_add_neg _ _
    refine xa_to 4 [(2, .int (x - Int32.ofInt 1)), (0, .ref 21), (1, .int x)] [] h [] 10 (a_rq_of hi.1 hn) rfl trivial (fun _ => ?_)
    rw [e1]
    exact k
end XBL
