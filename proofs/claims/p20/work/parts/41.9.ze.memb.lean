section XME
theorem xq_fz {f mid : Nat} {mi : xm_M} {pc : Nat} {lv : List (Nat × Value)} {st : List Value} {h : xh_H} (hm : fzM mid = true) : xq f mid mi pc lv st h (fun _ h' => Fz h h') := fun d lw v h' c s _ he => xe_x_fz fz_hM f d mid mi (pc, lw, st, h, 0, 0) v h' c s hm he
set_option maxRecDepth 100000 in
set_option maxHeartbeats 4000000 in
theorem nad_lp {q r m : Nat} {h0 : xh_H} (m12 : m ≤ 12) (hs : h0.1[q]? = some (0, 7)) (hg : xg none h0.2.2.2 q 1 = some r) (hr : h0.1[r]? = some (4, 64)) : ∀ (f i : Nat) (h : xh_H), a_rq a_tb h → fx fN (Lr r) h0 h → i ≤ 64 → (∀ j, j < i → xg 0 h.2.2.1 r j = 0) → xq f xi_X7_needAll xmi_X7_needAll 2 [(0, .ref q), (1, .int (nI m)), (2, .int (nI i))] [] h (fun v h' => v = none ∧ fx fN (Lr r) h0 h' ∧ ∀ t, t < 4096 → hv h' r t = decide (t = 2 ^ m - 1)) := by
  have p12 : 2 ^ m ≤ 4096 := show 2 ^ m ≤ 2 ^ 12 from Nat.pow_le_pow_right (by decide) m12
  have p0 := Nat.two_pow_pos m
  intro f
  induction f with
  | zero => intros; exact xq_0
  | succ f ih =>
    intro i h hq ge i6 w
    have hs' : h.1[q]? = some (0, 7) := by rw [ge.1]; exact hs
    have hr' : h.1[r]? = some (4, 64) := by rw [ge.1]; exact hr
    have hg' : xg none h.2.2.2 q 1 = some r := by rw [ge.2.1]; exact hg
    by_cases e : i = 64
    · have em : Int32.ofInt 1 <<< (nI m &&& 31) - Int32.ofInt 1 = nI (2 ^ m - 1) := by rw [sh1 m (by omega)]; exact nI_sub (b := 1) (by omega)
      refine xq_m 27 [] [] [.int (Int32.ofInt 1 <<< (nI m &&& 31) - Int32.ofInt 1), .ref q] h [true] 11 hq rfl ⟨(show xe_c .ge (nI i) 64 = true by rw [e]; rfl), trivial⟩ (fun _ => ?_)
      rw [em]
      refine xq_cr (As := [.ref q, .int (nI (2 ^ m - 1))]) (mj := xmi_X7_add) (q := []) rfl rfl (fun _ _ => rfl) (xa_cs_ok (d := 0) (pc := 0) (lv := []) (nL := 0) hs' rfl).1 (fun f => xq_of (d := 0) ⟨_, rfl⟩ (ad_run hq hs' hg' hr' (by omega))) ?_
      rintro v h1 ⟨rfl, rfl⟩
      refine xq_ret rfl rfl rfl ⟨rfl, fx_ul ge (Nat.beq_refl r), fun t t4 => ?_⟩
      rw [hv_ad t4, hv_lb, w (t / 64) (by omega), lb_0 (by omega), Bool.false_or]
      by_cases z : t = 2 ^ m - 1
      · rw [decide_eq_true z, decide_eq_true z.symm]
      · rw [decide_eq_false z, decide_eq_false (fun y => z y.symm)]
    · refine xq_m 9 [0, 1, 2] [(0, .ref q), (1, .int (nI m)), (2, .int (nI i))] [.ref q] h [false] 7 hq rfl ⟨(show xe_c .ge (nI i) 64 = false from nge_f (b := 64) (by omega) (by decide) (by omega)), trivial⟩ (fun _ => ?_)
      refine xq_st rfl rfl (fun _ _ => xe_gr hs' rfl hg') ?_
      refine xq_n 14 [0, 1, 2] [(0, .ref q), (1, .int (nI m)), (2, .int (nI i))] [.long 0, .int (nI i), .ref r] h [] 4 hq rfl trivial (fun _ => ?_)
      refine xq_st rfl rfl (fun _ _ => xe_ls hr' (xin_n (by omega) (by omega))) ?_
      rw [nI_clamp (by omega)]
      have hq : a_rq a_tb (xh_ul h r i 0) := a_rq_ul hq
      refine xq_n 2 [0, 1, 2] [(0, .ref q), (1, .int (nI m)), (2, .int ((nI i) + Int32.ofInt 1))] [] (xh_ul h r i 0) [] 4 hq rfl trivial (fun _ => ?_)
      rw [show nI i + Int32.ofInt 1 = nI (i + 1) from nI_1 _]
      refine ih (i + 1) _ hq (fx_ul ge (Nat.beq_refl r)) (by omega) (fun j hj => ?_)
      by_cases z : j = i
      · rw [z]; exact gl_s
      · rw [gl_k z]; exact w j (by omega)
set_option maxRecDepth 100000 in
theorem nad_q {f q r m : Nat} {h : xh_H} (m12 : m ≤ 12) (hs : h.1[q]? = some (0, 7)) (hg : xg none h.2.2.2 q 1 = some r) (hr : h.1[r]? = some (4, 64)) (hq : a_rq a_tb h) : xq f xi_X7_needAll xmi_X7_needAll 0 [(0, .ref q), (1, .int (nI m))] [] h (fun v h' => v = none ∧ fx fN (Lr r) h h' ∧ ∀ t, t < 4096 → hv h' r t = decide (t = 2 ^ m - 1)) := by
  refine xq_n 2 [0, 1, 2] [(0, .ref q), (1, .int (nI m)), (2, .int (Int32.ofInt 0))] [] h [] 4 hq rfl trivial (fun hq => ?_)
  exact nad_lp m12 hs hg hr f 0 h hq fx_0 (by omega) (fun j hj => absurd hj (Nat.not_lt_zero j))
def m09 (c k : Nat) : Bool := Nat.beq c 0 && Nat.beq k 9
set_option maxRecDepth 100000 in
set_option maxHeartbeats 4000000 in
theorem mb9d_q {f : Nat} {x s w r : Int32} {h : xh_H} (hq : a_rq a_tb h) (e8 : xg 0 h.2.1 0 8 = s) (e3 : xg 0 h.2.1 35 3 = w) (e1 : xg 0 h.2.1 28 1 = r) (u2 : xg none h.2.2.2 0 2 = some 11) (u3 : xg none h.2.2.2 11 1 = some 12) : xq f xi_X9_members xmi_X9_members 0 [(0, .ref 0), (1, .int x)] [] h (fun v h' => (mbB s w r x = false → h' = h) ∧ (mbB s w r x = true → fx m09 (Lr 12) h h' ∧ ∃ m, x = nI m ∧ m ≤ 12 ∧ ∀ t, t < 4096 → hv h' 12 t = decide (t = 2 ^ m - 1))) := by
  cases c1 : xe_c .gt s 0 with
  | true =>
    refine xq_n 49 [] [] [.int (Int32.ofInt 0)] h [true, true] 11 hq rfl ⟨(show xe_c .gt (xg 0 h.2.1 0 8) 0 = true by rw [show (xg 0 h.2.1 0 8) = s from e8]; exact c1), (by decide), trivial⟩ (fun hq => ?_)
    have hB : mbB s w r x = false := by unfold mbB; (rw [c1]) <;> simp only [Bool.not_true, Bool.not_false, Bool.true_and, Bool.false_and, Bool.and_false, Bool.and_true]
    exact xq_ret rfl rfl rfl ⟨fun _ => rfl, fun z => by rw [hB] at z; cases z⟩
  | false =>
    cases c2 : xe_c .gt w 0 with
    | true =>
      refine xq_n 49 [] [] [.int (Int32.ofInt 0)] h [false, true, true] 15 hq rfl ⟨(show xe_c .gt (xg 0 h.2.1 0 8) 0 = false by rw [show (xg 0 h.2.1 0 8) = s from e8]; exact c1), (show xe_c .gt (xg 0 h.2.1 35 3) 0 = true by rw [show (xg 0 h.2.1 35 3) = w from e3]; exact c2), (by decide), trivial⟩ (fun hq => ?_)
      have hB : mbB s w r x = false := by unfold mbB; (rw [c1, c2]) <;> simp only [Bool.not_true, Bool.not_false, Bool.true_and, Bool.false_and, Bool.and_false, Bool.and_true]
      exact xq_ret rfl rfl rfl ⟨fun _ => rfl, fun z => by rw [hB] at z; cases z⟩
    | false =>
      cases c3 : xe_c .eq r 0 with
      | true =>
        cases c4 : xe_c .lt x (Int32.ofInt 1) with
        | true =>
          refine xq_n 49 [] [] [.int (Int32.ofInt 0)] h [false, false, true, false, true] 21 hq rfl ⟨(show xe_c .gt (xg 0 h.2.1 0 8) 0 = false by rw [show (xg 0 h.2.1 0 8) = s from e8]; exact c1), (show xe_c .gt (xg 0 h.2.1 35 3) 0 = false by rw [show (xg 0 h.2.1 35 3) = w from e3]; exact c2), (show xe_c .eq (xg 0 h.2.1 28 1) 0 = true by rw [show (xg 0 h.2.1 28 1) = r from e1]; exact c3), (by decide), c4, trivial⟩ (fun hq => ?_)
          have hB : mbB s w r x = false := by unfold mbB; (rw [c1, c2, c3, c4]) <;> simp only [Bool.not_true, Bool.not_false, Bool.true_and, Bool.false_and, Bool.and_false, Bool.and_true]
          exact xq_ret rfl rfl rfl ⟨fun _ => rfl, fun z => by rw [hB] at z; cases z⟩
        | false =>
          cases c5 : xe_c .le x 12 with
          | true =>
            refine xq_n 60 [0, 1, 2] [(0, .ref 0), (1, .int x), (2, .int (Int32.ofInt 0))] [.int x, va_rf (xg none (xh_ui h 0 9 x).2.2.2 0 2)] (xh_ui h 0 9 x) [false, false, true, false, false, true] 29 hq rfl ⟨(show xe_c .gt (xg 0 h.2.1 0 8) 0 = false by rw [show (xg 0 h.2.1 0 8) = s from e8]; exact c1), (show xe_c .gt (xg 0 h.2.1 35 3) 0 = false by rw [show (xg 0 h.2.1 35 3) = w from e3]; exact c2), (show xe_c .eq (xg 0 h.2.1 28 1) 0 = true by rw [show (xg 0 h.2.1 28 1) = r from e1]; exact c3), (by decide), c4, c5, trivial⟩ (fun _ => ?_)
            have hq : a_rq a_tb (xh_ui h 0 9 x) := a_rq_ui hq
            have x1 : (Int32.ofInt 1).toInt ≤ x.toInt := a_ce (a_neg_ok c4)
            have x2 : x.toInt ≤ (12 : Int32).toInt := a_ce c5
            have x1 : (1 : Int) ≤ x.toInt := x1
            have x2 : x.toInt ≤ (12 : Int) := x2
            obtain ⟨m, em, m12⟩ : ∃ m, x = nI m ∧ m ≤ 12 := ⟨x.toInt.toNat, en_n (t := 0) (by omega), by omega⟩
            have e : xg none (xh_ui h 0 9 x).2.2.2 0 2 = some 11 := u2
            rw [e]
            have s11 : (xh_ui h 0 9 x).1[11]? = some (0, 7) := hq.2.1 11 _ rfl
            have s12 : (xh_ui h 0 9 x).1[12]? = some (4, 64) := hq.2.1 12 _ rfl
            refine xq_cr (As := [.ref 11, .int x]) (mj := xmi_X7_needAll) (q := []) rfl rfl (fun _ _ => rfl) (xa_cs_ok (d := 0) (pc := 0) (lv := []) (nL := 0) s11 rfl).1 (fun f => by rw [em]; exact nad_q (f := f) m12 s11 (by exact u3) s12 (em ▸ hq)) ?_
            rintro _ h1 ⟨rfl, g1, d1⟩
            have hq := fx_q g1 (em ▸ hq)
            refine xq_n 64 [] [] [.int (Int32.ofInt 1)] h1 [] 3 hq rfl trivial (fun hq => ?_)
            have hB : mbB s w r x = true := by unfold mbB; (rw [c1, c2, c3, c4, c5]) <;> simp only [Bool.not_true, Bool.not_false, Bool.true_and, Bool.false_and, Bool.and_false, Bool.and_true]
            exact xq_ret rfl rfl rfl ⟨fun z => by (rw [hB] at z; cases z), fun _ => ⟨fx_t (fx_ui fx_0 rfl) (fx_w (em ▸ g1) (fun _ _ _ => rfl) (fun _ _ z => z)), m, em, m12, d1⟩⟩
          | false =>
            refine xq_n 49 [] [] [.int (Int32.ofInt 0)] h [false, false, true, false, false, false] 24 hq rfl ⟨(show xe_c .gt (xg 0 h.2.1 0 8) 0 = false by rw [show (xg 0 h.2.1 0 8) = s from e8]; exact c1), (show xe_c .gt (xg 0 h.2.1 35 3) 0 = false by rw [show (xg 0 h.2.1 35 3) = w from e3]; exact c2), (show xe_c .eq (xg 0 h.2.1 28 1) 0 = true by rw [show (xg 0 h.2.1 28 1) = r from e1]; exact c3), (by decide), c4, c5, trivial⟩ (fun hq => ?_)
            have hB : mbB s w r x = false := by unfold mbB; (rw [c1, c2, c3, c4, c5]) <;> simp only [Bool.not_true, Bool.not_false, Bool.true_and, Bool.false_and, Bool.and_false, Bool.and_true]
            exact xq_ret rfl rfl rfl ⟨fun _ => rfl, fun z => by rw [hB] at z; cases z⟩
      | false =>
        refine xq_n 49 [] [] [.int (Int32.ofInt 0)] h [false, false, false, true] 19 hq rfl ⟨(show xe_c .gt (xg 0 h.2.1 0 8) 0 = false by rw [show (xg 0 h.2.1 0 8) = s from e8]; exact c1), (show xe_c .gt (xg 0 h.2.1 35 3) 0 = false by rw [show (xg 0 h.2.1 35 3) = w from e3]; exact c2), (show xe_c .eq (xg 0 h.2.1 28 1) 0 = false by rw [show (xg 0 h.2.1 28 1) = r from e1]; exact c3), (by decide), trivial⟩ (fun hq => ?_)
        have hB : mbB s w r x = false := by unfold mbB; (rw [c1, c2, c3]) <;> simp only [Bool.not_true, Bool.not_false, Bool.true_and, Bool.false_and, Bool.and_false, Bool.and_true]
        exact xq_ret rfl rfl rfl ⟨fun _ => rfl, fun z => by rw [hB] at z; cases z⟩
set_option maxRecDepth 100000 in
set_option maxHeartbeats 4000000 in
theorem ch9_q {f : Nat} {x : Int32} {h : xh_H} (hi : a_inv a_tb h) (hn : 72 ≤ h.1.length) : xq f xi_X9_chance xmi_X9_chance 0 [(0, .ref 0), (1, .int x)] [] h (fun v h' => ∃ h1, Fz h h1 ∧ fx fN (Lr 20) h1 h') := by
  have hq := a_rq_of hi.1 hn
  cases c1 : xe_c .lt x 0 with
  | true =>
    refine xq_n 24 [] [] [.long 18446744073709551615] h [true] 5 hq rfl ⟨c1, trivial⟩ (fun _ => ?_)
    exact xq_ret rfl rfl rfl ⟨h, Fz_0, fx_0⟩
  | false =>
    cases c2 : xe_c .le x 10 with
    | false =>
      refine xq_n 24 [] [] [.long 18446744073709551615] h [false, false] 8 hq rfl ⟨c1, c2, trivial⟩ (fun _ => ?_)
      exact xq_ret rfl rfl rfl ⟨h, Fz_0, fx_0⟩
    | true =>
      refine xq_n 17 [1] [(1, .int x)] [.ref 0] h [false, true] 7 hq rfl ⟨c1, c2, trivial⟩ (fun _ => ?_)
      refine xq_run hq rfl rfl (xq_and (xq_of (d := 5) ⟨_, rfl⟩ (pt_run (d := 0) hi hn)) (xq_fz (by decide +kernel))) ?_
      rintro v h1 ⟨⟨k1, rfl, -⟩, z1⟩
      have hq := a_rq_of k1.1.1 (hk_n k1 hn)
      obtain ⟨q, e, rq⟩ : a_e h1 14 6 (2, 11, 0) := ((k1.1.1 14 (0, 2) (hq.2.1 14 (0, 2) rfl)).2 6 (by decide))
      obtain ⟨g1, r, g2, g3⟩ := law_sh k1.1.1 rq
      refine xq_n 21 [] [] [.int x, .ref 14] h1 [] 3 hq rfl trivial (fun _ => ?_)
      refine xq_run hq rfl rfl (cho_q e g1 g2 g3 hq) ?_
      rintro v h2 ⟨g4, y, rfl⟩
      exact xq_ret rfl rfl rfl ⟨h1, z1, g4⟩
end XME
