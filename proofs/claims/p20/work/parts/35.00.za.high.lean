section XBG
/-- an int field of an object, within the table's bounds -/
theorem a_fl {tb : aT} {h : xh_H} {c ci k : Nat} {lo hi : Int} (hi0 : a_inw tb h) (hn : 72 ≤ h.1.length) (hs : a_sh[c]? = some (0, ci)) (hc : c < 72) (he : a_ent tb (0, ci) c k = (0, lo, hi)) (hk : k < xh_N ci) : lo ≤ (xg 0 h.2.1 c k).toInt ∧ (xg 0 h.2.1 c k).toInt ≤ hi := by
  have h1 := (a_rq_of hi0 hn).2.1 c _ hs
  have g := (hi0 c _ h1).2 k hk
  rw [a_tg_lt hc, he] at g
  exact g
set_option maxRecDepth 100000 in
set_option maxHeartbeats 4000000 in
theorem hg_loop {d : Nat} {h : xh_H} {s : Nat} {l : Int32} (hq : a_rq a_tb h) (hi : a_inw a_tb h) (hl1 : 0 ≤ l.toInt) (hl2 : l.toInt ≤ 60) : ∀ n a : Nat, a + n = 12 → s < a → ∃ w : Int32, -11 ≤ w.toInt ∧ w.toInt ≤ 60 ∧ xR none d xi_X5_highest xmi_X5_highest (4, [(3, .int (nI a)), (0, .ref 21), (1, .int (nI s)), (2, .int l)], [], h, 0, 0) (some (.int w), h, 0, 0) := by
  have ec := a_fl (k := 8) (lo := 0) (hi := 12) hi hq.1 (show a_sh[21]? = some (0, 5) by decide) (by decide) (by decide +kernel) (by decide)
  have out : ∀ a : Nat, xe_c .ge (nI a) (xg 0 h.2.1 21 8) = true → ∃ w : Int32, -11 ≤ w.toInt ∧ w.toInt ≤ 60 ∧ xR none d xi_X5_highest xmi_X5_highest (4, [(3, .int (nI a)), (0, .ref 21), (1, .int (nI s)), (2, .int l)], [], h, 0, 0) (some (.int w), h, 0, 0) := by
    intro a ha
    refine ⟨l, by omega, hl2, ?_⟩
    refine xa_to 40 [(3, .int (nI a)), (0, .ref 21), (1, .int (nI s)), (2, .int l)] [.int l] h [true] 20 hq rfl ⟨ha, trivial⟩ (fun _ => ?_)
    exact xR_ret rfl rfl rfl
  intro n
  induction n with
  | zero =>
    intro a ha _
    refine out a (decide_eq_true ?_)
    rw [Int32.le_iff_toInt_le, nI_toInt (by omega)]
    omega
  | succ n ih =>
    intro a ha hsa
    cases hge : xe_c .ge (nI a) (xg 0 h.2.1 21 8) with
    | true => exact out a hge
    | false =>
      have ein : xe_in (nI a) 12 = true := a_xin (by rw [nI_toInt (by omega)]; omega) (by rw [nI_toInt (by omega)]; omega)
      have eb := a_el (k := a) (lo := -1) (hi := 60) hi hq.1 (show a_sh[26]? = some (1, 12) by decide) (by decide) (by decide +kernel) (by omega)
      have ecl : (nI a).toNatClampNeg = a := nI_clamp (by omega)
      cases hc : xe_c .eq (xg 0 h.2.1 26 a) (Int32.ofInt (-1)) with
      | true =>
        obtain ⟨w, w1, w2, k⟩ := ih (a + 1) (by omega) (by omega)
        refine ⟨w, w1, w2, ?_⟩
        rw [← nI_1] at k
        refine xa_to 4 [(3, .int (nI a + Int32.ofInt 1)), (0, .ref 21), (1, .int (nI s)), (2, .int l)] [] h [false, true] 20 hq rfl ⟨hge, ein, by rw [ecl]; exact hc, trivial⟩ (fun _ => ?_)
        exact k
      | false =>
        have hne : (xg 0 h.2.1 26 a).toInt ≠ -1 := fun z => by
          have : xg 0 h.2.1 26 a = Int32.ofInt (-1) := Int32.toInt_inj.mp z
          rw [this] at hc
          revert hc
          decide
        have en := nI_toInt (n := a) (by omega)
        have es := nI_toInt (n := s) (by omega)
        have a1 : (nI a - nI s).toInt = (nI a).toInt - (nI s).toInt := ar_sub (by omega) (by omega)
        have a2 : (xg 0 h.2.1 26 a - (nI a - nI s)).toInt = (xg 0 h.2.1 26 a).toInt - (nI a - nI s).toInt := ar_sub (by omega) (by omega)
        refine ⟨xg 0 h.2.1 26 a - (nI a - nI s), by omega, by omega, ?_⟩
        refine xa_to 32 [(3, .int (nI a)), (0, .ref 21), (1, .int (nI s)), (2, .int l)] [.int (xg 0 h.2.1 26 (nI a).toNatClampNeg - (nI a - nI s))] h [false, false] 30 hq rfl ⟨hge, ein, by rw [ecl]; exact hc, ein, trivial⟩ (fun _ => ?_)
        rw [ecl]
        exact xR_ret rfl rfl rfl
set_option maxRecDepth 100000 in
theorem as_h_X5_highest : a_spec a_tb aC_h_X5_highest := by
  intro d mi vs h σ _ hM hi hn ha _
  cases hM
  match vs, ha with
  | [v0, v1, v2], ha =>
    obtain ⟨⟨q, rfl, hq⟩, ⟨x, rfl, h1, h2, -⟩, ⟨l, rfl, h3, h4, -⟩, -⟩ := ha
    have h1 : (0 : Int) ≤ x.toInt := h1
    have h2 : x.toInt ≤ 11 := h2
    have eq : q = 21 := a_r_ob (t := 21) (by decide) hq
    subst eq
    obtain ⟨ex, -⟩ := a_nIx (y := x) h1
    obtain ⟨w, w1, w2, k⟩ := hg_loop (d := d) (s := x.toInt.toNat) (l := l) (a_rq_of hi.1 hn) hi.1 h3 h4 (12 - (x.toInt.toNat + 1)) (x.toInt.toNat + 1) (by omega) (by omega)
    refine ⟨some (.int w), h, ?_, hi, rfl, ⟨_, List.mem_singleton.mpr rfl, ⟨_, rfl, a_vi rfl (a_I_ok w1 w2)⟩, a_fp0⟩, fun _ _ _ _ => rfl⟩
    rw [← nI_1, ← ex] at k
    refine xa_to 4 [(3, .int (x + Int32.ofInt 1)), (0, .ref 21), (1, .int x), (2, .int l)] [] h [] 10 (a_rq_of hi.1 hn) rfl trivial (fun _ => ?_)
    exact k
end XBG
