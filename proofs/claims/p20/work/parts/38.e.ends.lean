section XEN
theorem bv_m1 {i : Nat} (hi : i < 32) : (Int32.ofInt (-1)).toBitVec.getLsbD i = true := by
  have e : (Int32.ofInt (-1)).toBitVec = BitVec.allOnes 32 := by decide
  rw [e, BitVec.getLsbD_allOnes, decide_eq_true hi]
theorem bv_nI {a i : Nat} (hi : i < 32) : (nI a).toBitVec.getLsbD i = a.testBit i := by
  show (BitVec.ofNat 32 a).getLsbD i = _
  rw [BitVec.getLsbD_ofNat, decide_eq_true hi, Bool.true_and]
theorem nI_andn {a b c : Nat} (h : ∀ i, i < 32 → (a.testBit i && !(b.testBit i)) = c.testBit i) : nI a &&& (nI b ^^^ Int32.ofInt (-1)) = nI c := by
  apply Int32.toBitVec_inj.mp
  apply BitVec.eq_of_getLsbD_eq
  intro i hi
  show ((nI a).toBitVec &&& ((nI b).toBitVec ^^^ (Int32.ofInt (-1)).toBitVec)).getLsbD i = _
  rw [BitVec.getLsbD_and, BitVec.getLsbD_xor, bv_m1 hi, bv_nI hi, bv_nI hi, bv_nI hi, Bool.xor_true]
  exact h i hi
theorem nI_rm {s j : Nat} (hb : s.testBit j = true) : nI s &&& (nI (2 ^ j) ^^^ Int32.ofInt (-1)) = nI (s ^^^ 2 ^ j) := by
  refine nI_andn (fun i _ => ?_)
  rw [Nat.testBit_xor, tb_p]
  by_cases e : j = i
  · subst e
    rw [hb, decide_eq_true rfl]
    rfl
  · rw [decide_eq_false e, Bool.not_false, Bool.and_true, Bool.xor_false]
theorem nI_cf {s m : Nat} (hs : s < 2 ^ m) : nI (2 ^ m - 1) &&& (nI s ^^^ Int32.ofInt (-1)) = nI ((2 ^ m - 1) ^^^ s) := by
  refine nI_andn (fun i _ => ?_)
  rw [Nat.testBit_xor, Nat.testBit_two_pow_sub_one]
  by_cases e : i < m
  · rw [decide_eq_true e]
    cases s.testBit i <;> rfl
  · rw [decide_eq_false e, Nat.testBit_lt_two_pow (Nat.lt_of_lt_of_le hs (Nat.pow_le_pow_right (by decide) (by omega)))]
    rfl
theorem rm_lt {s j m : Nat} (hs : s < 2 ^ m) (hj : j < m) : s ^^^ 2 ^ j < 2 ^ m := Nat.xor_lt_two_pow hs (Nat.pow_lt_pow_right (by decide) hj)
theorem cf_lt {s m : Nat} (hs : s < 2 ^ m) : (2 ^ m - 1) ^^^ s < 2 ^ m := by
  have p0 : 0 < 2 ^ m := Nat.pow_pos (by decide)
  exact Nat.xor_lt_two_pow (by omega) hs
/-- a set is not in another one, which has all of it: somebody more -/
theorem more_j {a b m : Nat} (hb : b < 2 ^ m) (hab : a &&& b = a) (hne : a ≠ b) : ∃ j, j < m ∧ b.testBit j = true ∧ a.testBit j = false := by
  apply Classical.byContradiction
  intro hno
  apply hne
  apply Nat.eq_of_testBit_eq
  intro i
  have h1 : (a.testBit i && b.testBit i) = a.testBit i := by rw [← Nat.testBit_and, hab]
  cases hb2 : b.testBit i with
  | false => rw [hb2, Bool.and_false] at h1; exact h1.symm
  | true =>
    cases ha2 : a.testBit i with
    | true => rfl
    | false =>
      exfalso
      refine hno ⟨i, ?_, hb2, ha2⟩
      apply Classical.byContradiction
      intro him
      rw [Nat.testBit_lt_two_pow (Nat.lt_of_lt_of_le hb (Nat.pow_le_pow_right (by decide) (by omega)))] at hb2
      cases hb2
theorem sub_rm {a b j : Nat} (hab : a &&& b = a) (ha : a.testBit j = false) : a &&& (b ^^^ 2 ^ j) = a := by
  apply Nat.eq_of_testBit_eq
  intro i
  rw [Nat.testBit_and, Nat.testBit_xor, tb_p]
  have h1 : (a.testBit i && b.testBit i) = a.testBit i := by rw [← Nat.testBit_and, hab]
  by_cases e : j = i
  · subst e
    rw [ha]
    rfl
  · rw [decide_eq_false e, Bool.xor_false]
    exact h1
theorem sub_cf {a b m : Nat} (hab : a &&& b = a) : ((2 ^ m - 1) ^^^ b) &&& ((2 ^ m - 1) ^^^ a) = (2 ^ m - 1) ^^^ b ∨ ¬ (b < 2 ^ m) := by
  by_cases hb : b < 2 ^ m
  · refine Or.inl ?_
    apply Nat.eq_of_testBit_eq
    intro i
    rw [Nat.testBit_and, Nat.testBit_xor, Nat.testBit_xor, Nat.testBit_two_pow_sub_one]
    have h1 : (a.testBit i && b.testBit i) = a.testBit i := by rw [← Nat.testBit_and, hab]
    by_cases e : i < m
    · rw [decide_eq_true e]
      cases h2 : a.testBit i <;> cases h3 : b.testBit i <;> rw [h2, h3] at h1 <;> first | rfl | cases h1
    · have h3 := Nat.testBit_lt_two_pow (Nat.lt_of_lt_of_le hb (Nat.pow_le_pow_right (n := 2) (by decide) (show m ≤ i by omega)))
      rw [h3, Bool.and_false] at h1
      rw [decide_eq_false e, h3, ← h1]
      rfl
  · exact Or.inr hb
/-- the reference's LEAST sets, by its row -/
def lq (h : xh_H) (m s : Nat) : Prop := xg 0 h.2.1 53 s ≠ 0 ∧ ∀ j, j < m → s.testBit j = true → xg 0 h.2.1 53 (s ^^^ 2 ^ j) = 0
/-- .. and its HINDER sets -/
def hq' (h : xh_H) (m s : Nat) : Prop := xg 0 h.2.1 53 ((2 ^ m - 1) ^^^ s) = 0
def lhq (h : xh_H) (m s : Nat) : Prop := hq' h m s ∧ ∀ j, j < m → s.testBit j = true → ¬ hq' h m (s ^^^ 2 ^ j)
set_option maxRecDepth 100000 in
set_option maxHeartbeats 4000000 in
theorem il_loop {d m s : Nat} {h : xh_H} (hi : a_inw a_tb h) (hn : 72 ≤ h.1.length) (hm : m ≤ 12) (hmm : xg 0 h.2.1 39 4 = nI m) (hs : s < 2 ^ m) (h0 : xg 0 h.2.1 53 s ≠ 0) : ∀ (n j : Nat), j + n = m → (∀ j', j' < j → s.testBit j' = true → xg 0 h.2.1 53 (s ^^^ 2 ^ j') = 0) → xt_P d xi_X10_isLeast xmi_X10_isLeast 13 [(0, .ref 39), (1, .int (nI s)), (2, .int (nI j))] [] h (fun v h' => h = h' ∧ ∃ p : Bool, v = some (.int (cond p 1 0)) ∧ (p = true ↔ lq h m s)) := by
  have hq := a_rq_of hi hn
  have p12m : 2 ^ m ≤ 4096 := Nat.pow_le_pow_right (n := 2) (by decide) hm
  intro n
  induction n with
  | zero =>
    intro j hj hall
    have e : j = m := by omega
    subst e
    refine xa_tn 54 [] [] [.int (Int32.ofInt 1)] h [true] 7 hq rfl ⟨(show xe_c .ge (nI j) (xg 0 h.2.1 39 4) = true by rw [hmm]; exact nge_t (by omega) (by omega) (Nat.le_refl _)), trivial⟩ (fun _ => ?_)
    exact xp_ret rfl rfl rfl ⟨rfl, true, rfl, Iff.intro (fun _ => ⟨h0, hall⟩) (fun _ => rfl)⟩
  | succ n ih =>
    intro j hj hall
    have hge : xe_c .ge (nI j) (xg 0 h.2.1 39 4) = false := by rw [hmm]; exact nge_f (by omega) (by omega) (by omega)
    have e1 : nI j + Int32.ofInt 1 = nI (j + 1) := nI_1 j
    have bb := nI_b0 (a := s) (k := j) (by omega) (by omega)
    cases ts : s.testBit j with
    | false =>
      rw [ts] at bb
      refine xa_tn 13 [0, 1, 2] [(0, .ref 39), (1, .int (nI s)), (2, .int ((nI j) + Int32.ofInt 1))] [] h [false, true] 15 hq rfl ⟨hge, (show xe_c .ne (((nI s) >>> ((nI j) &&& 31)) &&& (Int32.ofInt 1)) (Int32.ofInt 1) = true by rw [bb]; rfl), trivial⟩ (fun _ => ?_)
      rw [e1]
      refine ih (j + 1) (by omega) (fun j' hj' ht => ?_)
      by_cases e : j' = j
      · subst e
        rw [ts] at ht
        cases ht
      · exact hall j' (by omega) ht
    | true =>
      rw [ts] at bb
      have er : (nI s) &&& (((Int32.ofInt 1) <<< ((nI j) &&& 31)) ^^^ (Int32.ofInt (-1))) = nI (s ^^^ 2 ^ j) := by rw [sh1 j (by omega)]; exact nI_rm ts
      have rl := rm_lt (s := s) (j := j) hs (by omega)
      have hin : xe_in ((nI s) &&& (((Int32.ofInt 1) <<< ((nI j) &&& 31)) ^^^ (Int32.ofInt (-1)))) 4096 = true := by rw [er]; exact xin_n (by omega) (by omega)
      have hne : xe_c .ne (((nI s) >>> ((nI j) &&& 31)) &&& (Int32.ofInt 1)) (Int32.ofInt 1) = false := by rw [bb]; rfl
      cases c1 : xe_c .eq (xg 0 h.2.1 53 (s ^^^ 2 ^ j)) 0 with
      | true =>
        refine xa_tn 13 [0, 1, 2] [(0, .ref 39), (1, .int (nI s)), (2, .int ((nI j) + Int32.ofInt 1))] [] h [false, false, true] 26 hq rfl ⟨hge, hne, hin, (show xe_c .eq (xg 0 h.2.1 53 ((nI s) &&& (((Int32.ofInt 1) <<< ((nI j) &&& 31)) ^^^ (Int32.ofInt (-1)))).toNatClampNeg) 0 = true by rw [er, nI_clamp (by omega)]; exact c1), trivial⟩ (fun _ => ?_)
        rw [e1]
        refine ih (j + 1) (by omega) (fun j' hj' ht => ?_)
        by_cases e : j' = j
        · subst e
          exact of_decide_eq_true c1
        · exact hall j' (by omega) ht
      | false =>
        refine xa_tn 46 [] [] [.int (Int32.ofInt 0)] h [false, false, false] 25 hq rfl ⟨hge, hne, hin, (show xe_c .eq (xg 0 h.2.1 53 ((nI s) &&& (((Int32.ofInt 1) <<< ((nI j) &&& 31)) ^^^ (Int32.ofInt (-1)))).toNatClampNeg) 0 = false by rw [er, nI_clamp (by omega)]; exact c1), trivial⟩ (fun _ => ?_)
        refine xp_ret rfl rfl rfl ⟨rfl, false, rfl, Iff.intro (fun z => Bool.noConfusion z) (fun z => ?_)⟩
        exact absurd (z.2 j (by omega) ts) (of_decide_eq_false c1)
set_option maxRecDepth 100000 in
set_option maxHeartbeats 4000000 in
theorem il_run {d m s : Nat} {h : xh_H} (hi : a_inw a_tb h) (hn : 72 ≤ h.1.length) (hm : m ≤ 12) (hmm : xg 0 h.2.1 39 4 = nI m) (hs : s < 2 ^ m) : xt_P d xi_X10_isLeast xmi_X10_isLeast 0 [(0, .ref 39), (1, .int (nI s))] [] h (fun v h' => h = h' ∧ ∃ p : Bool, v = some (.int (cond p 1 0)) ∧ (p = true ↔ lq h m s)) := by
  have hq := a_rq_of hi hn
  have p12m : 2 ^ m ≤ 4096 := Nat.pow_le_pow_right (n := 2) (by decide) hm
  have hin := xin_n (k := s) (n := 4096) (by omega) (by omega)
  have ecl : (nI s).toNatClampNeg = s := nI_clamp (by omega)
  cases c1 : xe_c .ne (xg 0 h.2.1 53 s) 0 with
  | false =>
    refine xa_tn 10 [] [] [.int (Int32.ofInt 0)] h [false] 8 hq rfl ⟨hin, (show xe_c .ne (xg 0 h.2.1 53 (nI s).toNatClampNeg) 0 = false by rw [ecl]; exact c1), trivial⟩ (fun _ => ?_)
    refine xp_ret rfl rfl rfl ⟨rfl, false, rfl, Iff.intro (fun z => Bool.noConfusion z) (fun z => ?_)⟩
    have c1 : (!decide (xg 0 h.2.1 53 s = 0)) = false := c1
    rw [Bool.not_eq_false'] at c1
    exact absurd (of_decide_eq_true c1) z.1
  | true =>
    refine xa_tn 13 [0, 1, 2] [(0, .ref 39), (1, .int (nI s)), (2, .int (Int32.ofInt 0))] [] h [true] 9 hq rfl ⟨hin, (show xe_c .ne (xg 0 h.2.1 53 (nI s).toNatClampNeg) 0 = true by rw [ecl]; exact c1), trivial⟩ (fun _ => ?_)
    have c1 : (!decide (xg 0 h.2.1 53 s = 0)) = true := c1
    rw [Bool.not_eq_true'] at c1
    exact il_loop hi hn hm hmm hs (of_decide_eq_false c1) m 0 (by omega) (fun j' hj' => absurd hj' (Nat.not_lt_zero j'))
set_option maxRecDepth 100000 in
set_option maxHeartbeats 4000000 in
theorem hi_run {d m s : Nat} {h : xh_H} (hi : a_inw a_tb h) (hn : 72 ≤ h.1.length) (hm : m ≤ 12) (hall : xg 0 h.2.1 39 35 = nI (2 ^ m)) (hs : s < 2 ^ m) : xt_P d xi_X10_hinders xmi_X10_hinders 0 [(0, .ref 39), (1, .int (nI s))] [] h (fun v h' => h = h' ∧ ∃ p : Bool, v = some (.int (cond p 1 0)) ∧ (p = true ↔ hq' h m s)) := by
  have hq := a_rq_of hi hn
  have p12m : 2 ^ m ≤ 4096 := Nat.pow_le_pow_right (n := 2) (by decide) hm
  have pm0 : 0 < 2 ^ m := Nat.pow_pos (by decide)
  have cl := cf_lt hs
  have ec : ((xg 0 h.2.1 39 35) - (Int32.ofInt 1)) &&& ((nI s) ^^^ (Int32.ofInt (-1))) = nI ((2 ^ m - 1) ^^^ s) := by
    obtain ⟨j, ej⟩ : ∃ j, 2 ^ m = j + 1 := ⟨2 ^ m - 1, by omega⟩
    have e1 : nI (2 ^ m) - Int32.ofInt 1 = nI (2 ^ m - 1) := by rw [ej]; exact nI_sub1
    rw [hall, e1]
    exact nI_cf hs
  refine xa_tn 15 [] [] [.int (xg 0 h.2.1 53 (((xg 0 h.2.1 39 35) - (Int32.ofInt 1)) &&& ((nI s) ^^^ (Int32.ofInt (-1)))).toNatClampNeg)] h [] 13 hq rfl ⟨(show xe_in (((xg 0 h.2.1 39 35) - (Int32.ofInt 1)) &&& ((nI s) ^^^ (Int32.ofInt (-1)))) 4096 = true by rw [ec]; exact xin_n (by omega) (by omega)), trivial⟩ (fun _ => ?_)
  rw [ec, nI_clamp (by omega)]
  cases c1 : xe_c .ne (xg 0 h.2.1 53 ((2 ^ m - 1) ^^^ s)) 0 with
  | true =>
    refine xa_tn 23 [] [] [.int (Int32.ofInt 0)] h [true] 4 hq rfl ⟨c1, trivial⟩ (fun _ => ?_)
    refine xp_ret rfl rfl rfl ⟨rfl, false, rfl, Iff.intro (fun z => Bool.noConfusion z) (fun z => ?_)⟩
    have c1 : (!decide (xg 0 h.2.1 53 ((2 ^ m - 1) ^^^ s) = 0)) = true := c1
    rw [Bool.not_eq_true'] at c1
    have c2 : xg 0 h.2.1 53 ((2 ^ m - 1) ^^^ s) ≠ 0 := of_decide_eq_false c1
    exact absurd z c2
  | false =>
    refine xa_tn 23 [] [] [.int (Int32.ofInt 1)] h [false] 5 hq rfl ⟨c1, trivial⟩ (fun _ => ?_)
    refine xp_ret rfl rfl rfl ⟨rfl, true, rfl, Iff.intro (fun _ => ?_) (fun _ => rfl)⟩
    have c1 : (!decide (xg 0 h.2.1 53 ((2 ^ m - 1) ^^^ s) = 0)) = false := c1
    rw [Bool.not_eq_false'] at c1
    have c2 : xg 0 h.2.1 53 ((2 ^ m - 1) ^^^ s) = 0 := of_decide_eq_true c1
    exact c2
set_option maxRecDepth 100000 in
set_option maxHeartbeats 4000000 in
theorem lh_loop {d m s : Nat} {h : xh_H} (hi : a_inw a_tb h) (hn : 72 ≤ h.1.length) (hm : m ≤ 12) (hmm : xg 0 h.2.1 39 4 = nI m) (hall : xg 0 h.2.1 39 35 = nI (2 ^ m)) (hs : s < 2 ^ m) (h0 : hq' h m s) : ∀ (n j : Nat), j + n = m → (∀ j', j' < j → s.testBit j' = true → ¬ hq' h m (s ^^^ 2 ^ j')) → xt_P (d + 1) xi_X10_isLeastHinder xmi_X10_isLeastHinder 12 [(0, .ref 39), (1, .int (nI s)), (2, .int (nI j))] [] h (fun v h' => h = h' ∧ ∃ p : Bool, v = some (.int (cond p 1 0)) ∧ (p = true ↔ lhq h m s)) := by
  have hq := a_rq_of hi hn
  have p12m : 2 ^ m ≤ 4096 := Nat.pow_le_pow_right (n := 2) (by decide) hm
  intro n
  induction n with
  | zero =>
    intro j hj hall2
    have e : j = m := by omega
    subst e
    refine xa_tn 52 [] [] [.int (Int32.ofInt 1)] h [true] 7 hq rfl ⟨(show xe_c .ge (nI j) (xg 0 h.2.1 39 4) = true by rw [hmm]; exact nge_t (by omega) (by omega) (Nat.le_refl _)), trivial⟩ (fun _ => ?_)
    exact xp_ret rfl rfl rfl ⟨rfl, true, rfl, Iff.intro (fun _ => ⟨h0, hall2⟩) (fun _ => rfl)⟩
  | succ n ih =>
    intro j hj hall2
    have hge : xe_c .ge (nI j) (xg 0 h.2.1 39 4) = false := by rw [hmm]; exact nge_f (by omega) (by omega) (by omega)
    have e1 : nI j + Int32.ofInt 1 = nI (j + 1) := nI_1 j
    have bb := nI_b0 (a := s) (k := j) (by omega) (by omega)
    cases ts : s.testBit j with
    | false =>
      rw [ts] at bb
      refine xa_tn 12 [0, 1, 2] [(0, .ref 39), (1, .int (nI s)), (2, .int ((nI j) + Int32.ofInt 1))] [] h [false, true] 15 hq rfl ⟨hge, (show xe_c .ne (((nI s) >>> ((nI j) &&& 31)) &&& (Int32.ofInt 1)) (Int32.ofInt 1) = true by rw [bb]; rfl), trivial⟩ (fun _ => ?_)
      rw [e1]
      refine ih (j + 1) (by omega) (fun j' hj' ht => ?_)
      by_cases e : j' = j
      · subst e
        rw [ts] at ht
        cases ht
      · exact hall2 j' (by omega) ht
    | true =>
      rw [ts] at bb
      have er : (nI s) &&& (((Int32.ofInt 1) <<< ((nI j) &&& 31)) ^^^ (Int32.ofInt (-1))) = nI (s ^^^ 2 ^ j) := by rw [sh1 j (by omega)]; exact nI_rm ts
      have rl := rm_lt (s := s) (j := j) hs (by omega)
      have hne : xe_c .ne (((nI s) >>> ((nI j) &&& 31)) &&& (Int32.ofInt 1)) (Int32.ofInt 1) = false := by rw [bb]; rfl
      refine xa_tn 37 [0, 1, 2] [(0, .ref 39), (1, .int (nI s)), (2, .int (nI j))] [.int ((nI s) &&& (((Int32.ofInt 1) <<< ((nI j) &&& 31)) ^^^ (Int32.ofInt (-1)))), .ref 39] h [false, false] 21 hq rfl ⟨hge, hne, trivial⟩ (fun _ => ?_)
      rw [er]
      refine xp_run hq rfl rfl (hi_run (d := d) hi hn hm hall rl) ?_
      rintro v h1 ⟨rfl, p, rfl, hp⟩
      cases p with
      | false =>
        refine xa_tn 12 [0, 1, 2] [(0, .ref 39), (1, .int (nI s)), (2, .int ((nI j) + Int32.ofInt 1))] [] h [true] 5 hq rfl ⟨rfl, trivial⟩ (fun _ => ?_)
        rw [e1]
        refine ih (j + 1) (by omega) (fun j' hj' ht => ?_)
        by_cases e : j' = j
        · subst e
          exact fun z => Bool.noConfusion (hp.mpr z)
        · exact hall2 j' (by omega) ht
      | true =>
        refine xa_tn 44 [] [] [.int (Int32.ofInt 0)] h [false] 4 hq rfl ⟨rfl, trivial⟩ (fun _ => ?_)
        exact xp_ret rfl rfl rfl ⟨rfl, false, rfl, Iff.intro (fun z => Bool.noConfusion z) (fun z => absurd (hp.mp rfl) (z.2 j (by omega) ts))⟩
set_option maxRecDepth 100000 in
set_option maxHeartbeats 4000000 in
theorem lh_run {d m s : Nat} {h : xh_H} (hi : a_inw a_tb h) (hn : 72 ≤ h.1.length) (hm : m ≤ 12) (hmm : xg 0 h.2.1 39 4 = nI m) (hall : xg 0 h.2.1 39 35 = nI (2 ^ m)) (hs : s < 2 ^ m) : xt_P (d + 1) xi_X10_isLeastHinder xmi_X10_isLeastHinder 0 [(0, .ref 39), (1, .int (nI s))] [] h (fun v h' => h = h' ∧ ∃ p : Bool, v = some (.int (cond p 1 0)) ∧ (p = true ↔ lhq h m s)) := by
  have hq := a_rq_of hi hn
  refine xa_tn 2 [0, 1] [(0, .ref 39), (1, .int (nI s))] [.int (nI s), .ref 39] h [] 4 hq rfl trivial (fun _ => ?_)
  refine xp_run hq rfl rfl (hi_run (d := d) hi hn hm hall hs) ?_
  rintro v h1 ⟨rfl, p, rfl, hp⟩
  cases p with
  | false =>
    refine xa_tn 9 [] [] [.int (Int32.ofInt 0)] h [false] 4 hq rfl ⟨rfl, trivial⟩ (fun _ => ?_)
    exact xp_ret rfl rfl rfl ⟨rfl, false, rfl, Iff.intro (fun z => Bool.noConfusion z) (fun z => Bool.noConfusion (hp.mpr z.1))⟩
  | true =>
    refine xa_tn 12 [0, 1, 2] [(0, .ref 39), (1, .int (nI s)), (2, .int (Int32.ofInt 0))] [] h [true] 5 hq rfl ⟨rfl, trivial⟩ (fun _ => ?_)
    exact lh_loop hi hn hm hmm hall hs (hp.mp rfl) m 0 (by omega) (fun j' hj' => absurd hj' (Nat.not_lt_zero j'))
/-! how many there can be -/
noncomputable def pb (P : Nat → Prop) (a : Nat) : Bool := @decide (P a) (Classical.propDecidable _)
theorem pb_t {P : Nat → Prop} {a : Nat} : pb P a = true ↔ P a := by
  unfold pb
  exact @decide_eq_true_iff (P a) (Classical.propDecidable _)
def lst (P : Nat → Prop) (n k : Nat) : Prop := ∃ L : List Nat, L.Nodup ∧ L.length = k ∧ ∀ a ∈ L, a < n ∧ P a
theorem lst_0 {P : Nat → Prop} : lst P 0 0 := ⟨[], List.nodup_nil, rfl, fun a h => nomatch h⟩
theorem lst_m {P : Nat → Prop} {n k : Nat} (h : lst P n k) : lst P (n + 1) k := by
  obtain ⟨L, h1, h2, h3⟩ := h
  exact ⟨L, h1, h2, fun a ha => ⟨by have := (h3 a ha).1; omega, (h3 a ha).2⟩⟩
theorem lst_s {P : Nat → Prop} {n k : Nat} (h : lst P n k) (hp : P n) : lst P (n + 1) (k + 1) := by
  obtain ⟨L, h1, h2, h3⟩ := h
  refine ⟨n :: L, List.nodup_cons.mpr ⟨fun z => ?_, h1⟩, by rw [List.length_cons, h2], fun a ha => ?_⟩
  · have := (h3 n z).1
    omega
  · rcases List.mem_cons.mp ha with rfl | ha
    · exact ⟨by omega, hp⟩
    · exact ⟨by have := (h3 a ha).1; omega, (h3 a ha).2⟩
theorem lst_le {P : Nat → Prop} {n k N : Nat} (hN : N ≤ 4096) (hnN : n ≤ N) (hanti : ∀ a b, a < N → b < N → P a → P b → a &&& b = a → a = b) (h : lst P n k) : k ≤ 924 := by
  obtain ⟨L, h1, h2, h3⟩ := h
  have s := sperner (p := pb (fun a => a < N ∧ P a)) (fun a b ha hb hab => hanti a b (pb_t.mp ha).1 (pb_t.mp hb).1 (pb_t.mp ha).2 (pb_t.mp hb).2 hab)
  rw [← h2]
  refine Nat.le_trans (sp_len L _ h1 (fun a ha => ?_)) s
  have := h3 a ha
  exact List.mem_filter.mpr ⟨List.mem_range.mpr (by omega), pb_t.mpr ⟨by omega, this.2⟩⟩
/-- the reference's row as 0 or 1, monotone -/
theorem row_z {h : xh_H} {s : Nat} (hi : a_inw a_tb h) (hn : 72 ≤ h.1.length) (hs : s < 4096) : xg 0 h.2.1 53 s = 0 ∨ xg 0 h.2.1 53 s = 1 := by
  have b := a_blx (c := 53) (k := s) (lo := 0) (hi := 1) hi hn rfl rfl hs
  have := a_i01 b.1 b.2
  rw [Bool.or_eq_true, decide_eq_true_eq, decide_eq_true_eq] at this
  exact this
theorem row_m {h : xh_H} {m s t : Nat} (hi : a_inv a_tb h) (hn : 72 ≤ h.1.length) (hm : m ≤ 12) (hall : xg 0 h.2.1 39 35 = nI (2 ^ m)) (hs : s < 2 ^ m) (ht : t < 2 ^ m) (hst : s &&& t = s) (h1 : xg 0 h.2.1 53 s ≠ 0) : xg 0 h.2.1 53 t ≠ 0 := by
  have p12m : 2 ^ m ≤ 4096 := Nat.pow_le_pow_right (n := 2) (by decide) hm
  have e : (xg 0 h.2.1 39 35).toInt.toNat = 2 ^ m := by rw [hall, nI_toInt (by omega)]; rfl
  have g := hi.2.2.2.1 s t (by rw [e]; exact hs) (by rw [e]; exact ht) hst
  dsimp only at g
  rcases row_z hi.1 hn (show s < 4096 by omega) with z | z
  · exact absurd z h1
  · rw [z] at g
    intro z2
    rw [z2] at g
    revert g
    decide
theorem anti_l {h : xh_H} {m : Nat} (hi : a_inv a_tb h) (hn : 72 ≤ h.1.length) (hm : m ≤ 12) (hall : xg 0 h.2.1 39 35 = nI (2 ^ m)) : ∀ a b, a < 2 ^ m → b < 2 ^ m → lq h m a → lq h m b → a &&& b = a → a = b := by
  intro a b ha hb la lb hab
  apply Classical.byContradiction
  intro hne
  obtain ⟨j, j1, j2, j3⟩ := more_j hb hab hne
  exact row_m hi hn hm hall ha (rm_lt hb j1) (sub_rm hab j3) la.1 (lb.2 j j1 j2)
theorem anti_h {h : xh_H} {m : Nat} (hi : a_inv a_tb h) (hn : 72 ≤ h.1.length) (hm : m ≤ 12) (hall : xg 0 h.2.1 39 35 = nI (2 ^ m)) : ∀ a b, a < 2 ^ m → b < 2 ^ m → lhq h m a → lhq h m b → a &&& b = a → a = b := by
  intro a b ha hb la lb hab
  apply Classical.byContradiction
  intro hne
  obtain ⟨j, j1, j2, j3⟩ := more_j hb hab hne
  refine lb.2 j j1 j2 ?_
  apply Classical.byContradiction
  intro hno
  have hs := sub_rm hab j3
  rcases sub_cf (m := m) hs with z | z
  · exact row_m hi hn hm hall (cf_lt (rm_lt hb j1)) (cf_lt ha) z hno la.1
  · exact z (rm_lt hb j1)
abbrev en_md : List (Nat × Nat) := [(39, 47), (39, 48), (59, 0), (60, 0)]
theorem lq_c {h0 h : xh_H} {m s : Nat} (hk0 : hk en_md h0 h) : lq h m s ↔ lq h0 m s := by
  unfold lq
  have e : ∀ k, xg 0 h.2.1 53 k = xg 0 h0.2.1 53 k := fun k => hk_g hk0 rfl rfl
  simp only [e]
theorem lhq_c {h0 h : xh_H} {m s : Nat} (hk0 : hk en_md h0 h) : lhq h m s ↔ lhq h0 m s := by
  unfold lhq hq'
  have e : ∀ k, xg 0 h.2.1 53 k = xg 0 h0.2.1 53 k := fun k => hk_g hk0 rfl rfl
  simp only [e]
set_option maxRecDepth 100000 in
set_option maxHeartbeats 8000000 in
theorem en_loop {d m : Nat} {h0 : xh_H} (hi0 : a_inv a_tb h0) (hn : 72 ≤ h0.1.length) (hm : m ≤ 12) (hmm : xg 0 h0.2.1 39 4 = nI m) (hall : xg 0 h0.2.1 39 35 = nI (2 ^ m)) : ∀ (n s : Nat) (h : xh_H) (a b : Nat), s + n = 2 ^ m → hk en_md h0 h → xg 0 h.2.1 39 47 = nI a → xg 0 h.2.1 39 48 = nI b → lst (lq h0 m) s a → lst (lhq h0 m) s b → xt_P (d + 2) xi_X10_findEnds xmi_X10_findEnds 12 [(0, .ref 39), (1, .int (nI s))] [] h (fun v h' => v = none ∧ hk en_md h0 h') := by
  have p12m : 2 ^ m ≤ 4096 := Nat.pow_le_pow_right (n := 2) (by decide) hm
  have al := anti_l hi0 hn hm hall
  have ah := anti_h hi0 hn hm hall
  intro n
  induction n with
  | zero =>
    intro s h a b hs hk0 ha hb la lb
    have e : s = 2 ^ m := by omega
    refine xa_tn 91 [] [] [] h [true] 6 (hk_q hk0 hn) rfl ⟨(show xe_c .ge (nI s) (xg 0 h.2.1 39 35) = true by rw [hk_g (c := 39) (k := 35) hk0 rfl rfl, hall]; exact nge_t (by omega) (by omega) (by omega)), trivial⟩ (fun _ => ?_)
    exact xp_ret rfl rfl rfl ⟨rfl, hk0⟩
  | succ n ih =>
    intro s h a b hs hk0 ha hb la lb
    have e1 : nI s + Int32.ofInt 1 = nI (s + 1) := nI_1 s
    have g35 : xg 0 h.2.1 39 35 = nI (2 ^ m) := (hk_g (c := 39) (k := 35) hk0 rfl rfl).trans hall
    have g4 : xg 0 h.2.1 39 4 = nI m := (hk_g (c := 39) (k := 4) hk0 rfl rfl).trans hmm
    have a924 := lst_le (by omega) (show s ≤ 2 ^ m by omega) al la
    have b924 := lst_le (by omega) (show s ≤ 2 ^ m by omega) ah lb
    have si := nI_toInt (n := s) (by omega)
    -- the hinder half
    have half : ∀ (h1 : xh_H) (a1 : Nat), hk en_md h0 h1 → xg 0 h1.2.1 39 47 = nI a1 → xg 0 h1.2.1 39 48 = nI b → lst (lq h0 m) (s + 1) a1 → xt_P (d + 2) xi_X10_findEnds xmi_X10_findEnds 50 [(0, .ref 39), (1, .int (nI s))] [.int (nI s), .ref 39] h1 (fun v h' => v = none ∧ hk en_md h0 h') := by
      intro h1 a1 hk1 ha1 hb1 la1
      have q1 := hk_q hk1 hn
      have k35 : xg 0 h1.2.1 39 35 = nI (2 ^ m) := (hk_g (c := 39) (k := 35) hk1 rfl rfl).trans hall
      have k4 : xg 0 h1.2.1 39 4 = nI m := (hk_g (c := 39) (k := 4) hk1 rfl rfl).trans hmm
      refine xp_run q1 rfl rfl (lh_run (d := d) hk1.1.1 (hk_n hk1 hn) hm k4 k35 (show s < 2 ^ m by omega)) ?_
      rintro v h2 ⟨rfl, p, rfl, hp⟩
      rw [lhq_c hk1] at hp
      cases p with
      | false =>
        refine xa_tn 12 [0, 1] [(0, .ref 39), (1, .int ((nI s) + Int32.ofInt 1))] [] h1 [true] 5 q1 rfl ⟨rfl, trivial⟩ (fun _ => ?_)
        rw [e1]
        exact ih (s + 1) h1 a1 b (by omega) hk1 ha1 hb1 la1 (lst_m lb)
      | true =>
        have lb1 := lst_s lb (hp.mp rfl)
        have b923 := lst_le (by omega) (show s + 1 ≤ 2 ^ m by omega) ah lb1
        have hs2 : s < 2 ^ m := by omega
        have cl := cf_lt hs2
        have ec : ((xg 0 h1.2.1 39 35) - (Int32.ofInt 1)) &&& ((nI s) ^^^ (Int32.ofInt (-1))) = nI ((2 ^ m - 1) ^^^ s) := by
          obtain ⟨j, ej⟩ : ∃ j, 2 ^ m = j + 1 := ⟨2 ^ m - 1, by omega⟩
          have e1 : nI (2 ^ m) - Int32.ofInt 1 = nI (2 ^ m - 1) := by rw [ej]; exact nI_sub1
          rw [k35, e1]
          exact nI_cf hs2
        refine xa_tn 75 [0, 1] [(0, .ref 39), (1, .int (nI s))] [] (xh_ui h1 60 (xg 0 h1.2.1 39 48).toNatClampNeg (((xg 0 h1.2.1 39 35) - (Int32.ofInt 1)) &&& ((nI s) ^^^ (Int32.ofInt (-1))))) [false] 16 q1 rfl ⟨rfl, (show xe_in (xg 0 h1.2.1 39 48) 924 = true by rw [hb1]; exact xin_n (by omega) (by omega)), trivial⟩ (fun _ => ?_)
        rw [ec, hb1, nI_clamp (by omega)]
        have ci := nI_toInt (n := (2 ^ m - 1) ^^^ s) (by omega)
        have hk2 : hk en_md h0 (xh_ui h1 60 b (nI ((2 ^ m - 1) ^^^ s))) := hk_ui (s := (1, 924)) (lo := 0) (hi := 4095) hk1 hn rfl rfl (by omega) (by omega) rfl rfl
        have ha2 : xg 0 (xh_ui h1 60 b (nI ((2 ^ m - 1) ^^^ s))).2.1 39 47 = nI a1 := by rw [gx_o (by decide)]; exact ha1
        have hb2 : xg 0 (xh_ui h1 60 b (nI ((2 ^ m - 1) ^^^ s))).2.1 39 48 = nI b := by rw [gx_o (by decide)]; exact hb1
        generalize xh_ui h1 60 b (nI ((2 ^ m - 1) ^^^ s)) = h2 at hk2 ha2 hb2 ⊢
        refine xa_tn 12 [0, 1] [(0, .ref 39), (1, .int ((nI s) + Int32.ofInt 1))] [] (xh_ui h2 39 48 ((xg 0 h2.2.1 39 48) + (Int32.ofInt 1))) [] 10 (hk_q hk2 hn) rfl trivial (fun _ => ?_)
        have eb : nI b + Int32.ofInt 1 = nI (b + 1) := nI_1 b
        rw [e1, hb2, eb]
        have bi := nI_toInt (n := b + 1) (by omega)
        exact ih (s + 1) _ a1 (b + 1) (by omega) (hk_ui (s := (0, 10)) (lo := 0) (hi := 924) hk2 hn rfl rfl (by omega) (by omega) rfl rfl) (by rw [gx_k (by decide)]; exact ha2) gx_s la1 lb1
    refine xa_tn 22 [0, 1] [(0, .ref 39), (1, .int (nI s))] [.int (nI s), .ref 39] h [false] 8 (hk_q hk0 hn) rfl ⟨(show xe_c .ge (nI s) (xg 0 h.2.1 39 35) = false by rw [g35]; exact nge_f (by omega) (by omega) (by omega)), trivial⟩ (fun hq => ?_)
    refine xp_run hq rfl rfl (il_run (d := d + 1) hk0.1.1 (hk_n hk0 hn) hm g4 (show s < 2 ^ m by omega)) ?_
    rintro v h1 ⟨rfl, p, rfl, hp⟩
    rw [lq_c hk0] at hp
    cases p with
    | false =>
      refine xa_tn 50 [0, 1] [(0, .ref 39), (1, .int (nI s))] [.int (nI s), .ref 39] h [true] 5 hq rfl ⟨rfl, trivial⟩ (fun _ => ?_)
      exact half h a hk0 ha hb (lst_m la)
    | true =>
      have la1 := lst_s la (hp.mp rfl)
      have a923 := lst_le (by omega) (show s + 1 ≤ 2 ^ m by omega) al la1
      refine xa_tn 38 [0, 1] [(0, .ref 39), (1, .int (nI s))] [] (xh_ui h 59 (xg 0 h.2.1 39 47).toNatClampNeg (nI s)) [false] 9 hq rfl ⟨rfl, (show xe_in (xg 0 h.2.1 39 47) 924 = true by rw [ha]; exact xin_n (by omega) (by omega)), trivial⟩ (fun _ => ?_)
      rw [ha, nI_clamp (by omega)]
      have hk2 : hk en_md h0 (xh_ui h 59 a (nI s)) := hk_ui (s := (1, 924)) (lo := 0) (hi := 4095) hk0 hn rfl rfl (by omega) (by omega) rfl rfl
      have ha2 : xg 0 (xh_ui h 59 a (nI s)).2.1 39 47 = nI a := by rw [gx_o (by decide)]; exact ha
      have hb2 : xg 0 (xh_ui h 59 a (nI s)).2.1 39 48 = nI b := by rw [gx_o (by decide)]; exact hb
      generalize xh_ui h 59 a (nI s) = h2 at hk2 ha2 hb2 ⊢
      refine xa_tn 50 [0, 1] [(0, .ref 39), (1, .int (nI s))] [.int (nI s), .ref 39] (xh_ui h2 39 47 ((xg 0 h2.2.1 39 47) + (Int32.ofInt 1))) [] 10 (hk_q hk2 hn) rfl trivial (fun _ => ?_)
      have ea : nI a + Int32.ofInt 1 = nI (a + 1) := nI_1 a
      rw [ha2, ea]
      have ai := nI_toInt (n := a + 1) (by omega)
      exact half _ (a + 1) (hk_ui (s := (0, 10)) (lo := 0) (hi := 924) hk2 hn rfl rfl (by omega) (by omega) rfl rfl) gx_s (by rw [gx_k (by decide)]; exact hb2) la1
set_option maxRecDepth 100000 in
set_option maxHeartbeats 4000000 in
/-- X10.findEnds, where the row is laid -/
theorem en_run {d m : Nat} {h : xh_H} (hi : a_inv a_tb h) (hn : 72 ≤ h.1.length) (hm : m ≤ 12) (hmm : xg 0 h.2.1 39 4 = nI m) (hall : xg 0 h.2.1 39 35 = nI (2 ^ m)) : xt_P (d + 2) xi_X10_findEnds xmi_X10_findEnds 0 [(0, .ref 39)] [] h (fun v h' => v = none ∧ hk en_md h h') := by
  refine xa_tn 12 [0, 1] [(0, .ref 39), (1, .int (Int32.ofInt 0))] [] (xh_ui (xh_ui h 39 47 (Int32.ofInt 0)) 39 48 (Int32.ofInt 0)) [] 10 (a_rq_of hi.1 hn) rfl trivial (fun _ => ?_)
  exact en_loop hi hn hm hmm hall (2 ^ m) 0 _ 0 0 (by omega) (hk_ui (s := (0, 10)) (lo := 0) (hi := 924) (hk_ui (s := (0, 10)) (lo := 0) (hi := 924) (hk_0 hi) hn rfl rfl (by decide) (by decide) rfl rfl) hn rfl rfl (by decide) (by decide) rfl rfl) (by rw [gx_k (by decide), gx_s]; rfl) gx_s lst_0 lst_0
end XEN
