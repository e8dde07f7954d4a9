section XHD
/-- of the sets below n without both: what carries with b carries with a -/
def hd_ge (h : xh_H) (n a b : Nat) : Prop := ∀ s, s < n → s.testBit a = false → s.testBit b = false → xg 0 h.2.1 53 (s ||| 2 ^ b) ≠ 0 → xg 0 h.2.1 53 (s ||| 2 ^ a) ≠ 0
def hd_v (p q : Bool) : Int32 := cond p (cond q 3 1) (cond q 2 0)
theorem hd_s0 {h : xh_H} {n a b : Nat} (hg : hd_ge h n a b) (hs : n.testBit a = true ∨ n.testBit b = true) : hd_ge h (n + 1) a b := by
  intro s h1 h2 h3 h4
  by_cases e : s = n
  · subst e
    rcases hs with z | z
    · rw [h2] at z; cases z
    · rw [h3] at z; cases z
  · exact hg s (by omega) h2 h3 h4
theorem hd_s1 {h : xh_H} {n a b : Nat} (hg : hd_ge h n a b) (hs : xg 0 h.2.1 53 (n ||| 2 ^ b) ≠ 0 → xg 0 h.2.1 53 (n ||| 2 ^ a) ≠ 0) : hd_ge h (n + 1) a b := by
  intro s h1 h2 h3 h4
  by_cases e : s = n
  · subst e
    exact hs h4
  · exact hg s (by omega) h2 h3 h4
theorem hd_m {h : xh_H} {n a b : Nat} (hg : hd_ge h (n + 1) a b) : hd_ge h n a b := fun s h1 => hg s (by omega)
set_option maxRecDepth 100000 in
set_option maxHeartbeats 8000000 in
theorem hd_loop {d a b : Nat} {h : xh_H} {n : Nat} (hq : a_rq a_tb h) (ha : a ≤ 11) (hb : b ≤ 11) (hn : n ≤ 4096) (hall : xg 0 h.2.1 39 35 = nI n) : ∀ (m s : Nat) (p q : Bool), s + m = n → (p = true ↔ hd_ge h s a b) → (q = true ↔ hd_ge h s b a) → xt_P d xi_X10_held xmi_X10_held 5 [(0, .ref 39), (1, .int (nI a)), (2, .int (nI b)), (3, .int (hd_v p q)), (4, .int (nI s))] [] h (fun v h' => h' = h ∧ ∃ p q : Bool, v = some (.int (hd_v p q)) ∧ (p = true ↔ hd_ge h n a b) ∧ (q = true ↔ hd_ge h n b a)) := by
  intro m
  induction m with
  | zero =>
    intro s p q hs hp hq2
    have e : s = n := by omega
    subst e
    refine xa_tn 98 [] [] [.int (hd_v p q)] h [true] 7 hq rfl ⟨by rw [hall]; exact nge_t (by omega) (by omega) (Nat.le_refl _), trivial⟩ (fun _ => ?_)
    exact xp_ret rfl rfl rfl ⟨rfl, p, q, rfl, hp, hq2⟩
  | succ m ih =>
    intro s p q hs hp hq2
    have hge : xe_c .ge (nI s) (xg 0 h.2.1 39 35) = false := by rw [hall]; exact nge_f (by omega) (by omega) (by omega)
    have e : nI s + Int32.ofInt 1 = nI (s + 1) := nI_1 s
    have ba := nI_b0 (a := s) (k := a) (by omega) (by omega)
    have bb := nI_b0 (a := s) (k := b) (by omega) (by omega)
    cases ta : s.testBit a with
    | true =>
      rw [ta] at ba
      refine xa_tn 5 [0, 1, 2, 3, 4] [(0, .ref 39), (1, .int (nI a)), (2, .int (nI b)), (3, .int (hd_v p q)), (4, .int ((nI s) + Int32.ofInt 1))] [] h [false, true] 15 hq rfl ⟨hge, by rw [ba]; rfl, trivial⟩ (fun _ => ?_)
      rw [e]
      exact ih (s + 1) p q (by omega) ⟨fun z => hd_s0 (hp.mp z) (Or.inl ta), fun z => hp.mpr (hd_m z)⟩ ⟨fun z => hd_s0 (hq2.mp z) (Or.inr ta), fun z => hq2.mpr (hd_m z)⟩
    | false =>
      rw [ta] at ba
      cases tb : s.testBit b with
      | true =>
        rw [tb] at bb
        refine xa_tn 5 [0, 1, 2, 3, 4] [(0, .ref 39), (1, .int (nI a)), (2, .int (nI b)), (3, .int (hd_v p q)), (4, .int ((nI s) + Int32.ofInt 1))] [] h [false, false, false] 23 hq rfl ⟨hge, by rw [ba]; rfl, by rw [bb]; rfl, trivial⟩ (fun _ => ?_)
        rw [e]
        exact ih (s + 1) p q (by omega) ⟨fun z => hd_s0 (hp.mp z) (Or.inr tb), fun z => hp.mpr (hd_m z)⟩ ⟨fun z => hd_s0 (hq2.mp z) (Or.inl tb), fun z => hq2.mpr (hd_m z)⟩
      | false =>
        rw [tb] at bb
        have oa := nI_o1 (s := s) (a := a) ha
        have ob := nI_o1 (s := s) (a := b) hb
        have la := or12 (s := s) (a := a) (by omega) ha
        have lb := or12 (s := s) (a := b) (by omega) hb
        refine xa_tn 63 [0, 1, 2, 3, 4, 5, 6] [(0, .ref 39), (1, .int (nI a)), (2, .int (nI b)), (3, .int (hd_v p q)), (4, .int (nI s)), (5, .int (xg 0 h.2.1 53 ((nI s) ||| ((Int32.ofInt 1) <<< ((nI a) &&& 31))).toNatClampNeg)), (6, .int (xg 0 h.2.1 53 ((nI s) ||| ((Int32.ofInt 1) <<< ((nI b) &&& 31))).toNatClampNeg))] [] h [false, false, true] 38 hq rfl ⟨hge, by rw [ba]; rfl, by rw [bb]; rfl, by rw [oa]; exact xin_n la (by omega), by rw [ob]; exact xin_n lb (by omega), trivial⟩ (fun _ => ?_)
        rw [oa, ob, nI_clamp (by omega), nI_clamp (by omega)]
        have key : ∀ x y : Int32, xg 0 h.2.1 53 (s ||| 2 ^ a) = x → xg 0 h.2.1 53 (s ||| 2 ^ b) = y → xt_P d xi_X10_held xmi_X10_held 63 [(0, .ref 39), (1, .int (nI a)), (2, .int (nI b)), (3, .int (hd_v p q)), (4, .int (nI s)), (5, .int x), (6, .int y)] [] h (fun v h' => h' = h ∧ ∃ p q : Bool, v = some (.int (hd_v p q)) ∧ (p = true ↔ hd_ge h n a b) ∧ (q = true ↔ hd_ge h n b a)) := by
          intro x y ex ey
          cases cy : xe_c .eq y 0 with
          | true =>
            have y0 : y = 0 := of_decide_eq_true cy
            refine xa_tn 77 [0, 1, 2, 3, 4, 5, 6] [(0, .ref 39), (1, .int (nI a)), (2, .int (nI b)), (3, .int (hd_v p q)), (4, .int (nI s)), (5, .int x), (6, .int y)] [] h [true] 4 hq rfl ⟨cy, trivial⟩ (fun _ => ?_)
            have hp1 : (p = true ↔ hd_ge h (s + 1) a b) := ⟨fun z => hd_s1 (hp.mp z) (fun w => absurd (ey.trans y0) w), fun z => hp.mpr (hd_m z)⟩
            cases cx : xe_c .eq x 0 with
            | true =>
              have x0 : x = 0 := of_decide_eq_true cx
              refine xa_tn 5 [0, 1, 2, 3, 4] [(0, .ref 39), (1, .int (nI a)), (2, .int (nI b)), (3, .int (hd_v p q)), (4, .int ((nI s) + Int32.ofInt 1))] [] h [true] 6 hq rfl ⟨cx, trivial⟩ (fun _ => ?_)
              rw [e]
              exact ih (s + 1) p q (by omega) hp1 ⟨fun z => hd_s1 (hq2.mp z) (fun w => absurd (ex.trans x0) w), fun z => hq2.mpr (hd_m z)⟩
            | false =>
              have x0 : x ≠ 0 := of_decide_eq_false cx
              have cy2 : xe_c .ne y 0 = false := by show (!decide (y = 0)) = false; rw [decide_eq_true y0]; rfl
              refine xa_tn 5 [0, 1, 2, 3, 4] [(0, .ref 39), (1, .int (nI a)), (2, .int (nI b)), (3, .int (hd_v p q &&& (Int32.ofInt 1))), (4, .int ((nI s) + Int32.ofInt 1))] [] h [false, false] 12 hq rfl ⟨cx, cy2, trivial⟩ (fun _ => ?_)
              have ev : hd_v p q &&& Int32.ofInt 1 = hd_v p false := by cases p <;> cases q <;> rfl
              rw [e, ev]
              refine ih (s + 1) p false (by omega) hp1 ⟨fun z => (by cases z), fun z => ?_⟩
              exact absurd (ey.trans y0) (z s (by omega) tb ta (by rw [ex]; exact x0))
          | false =>
            have y0 : y ≠ 0 := of_decide_eq_false cy
            have cy2 : xe_c .ne y 0 = true := by show (!decide (y = 0)) = true; rw [decide_eq_false y0]; rfl
            have hq1 : (q = true ↔ hd_ge h (s + 1) b a) := ⟨fun z => hd_s1 (hq2.mp z) (fun _ => by rw [ey]; exact y0), fun z => hq2.mpr (hd_m z)⟩
            cases cx : xe_c .eq x 0 with
            | true =>
              have x0 : x = 0 := of_decide_eq_true cx
              have cx2 : xe_c .ne x 0 = false := by show (!decide (x = 0)) = false; rw [decide_eq_true x0]; rfl
              refine xa_tn 77 [0, 1, 2, 3, 4, 5, 6] [(0, .ref 39), (1, .int (nI a)), (2, .int (nI b)), (3, .int (hd_v p q &&& (Int32.ofInt 2))), (4, .int (nI s)), (5, .int x), (6, .int y)] [] h [false, false] 10 hq rfl ⟨cy, cx2, trivial⟩ (fun _ => ?_)
              have ev : hd_v p q &&& Int32.ofInt 2 = hd_v false q := by cases p <;> cases q <;> rfl
              rw [ev]
              refine xa_tn 5 [0, 1, 2, 3, 4] [(0, .ref 39), (1, .int (nI a)), (2, .int (nI b)), (3, .int (hd_v false q)), (4, .int ((nI s) + Int32.ofInt 1))] [] h [true] 6 hq rfl ⟨cx, trivial⟩ (fun _ => ?_)
              rw [e]
              refine ih (s + 1) false q (by omega) ⟨fun z => (by cases z), fun z => ?_⟩ hq1
              exact absurd (ex.trans x0) (z s (by omega) ta tb (by rw [ey]; exact y0))
            | false =>
              have x0 : x ≠ 0 := of_decide_eq_false cx
              have cx2 : xe_c .ne x 0 = true := by show (!decide (x = 0)) = true; rw [decide_eq_false x0]; rfl
              refine xa_tn 77 [0, 1, 2, 3, 4, 5, 6] [(0, .ref 39), (1, .int (nI a)), (2, .int (nI b)), (3, .int (hd_v p q)), (4, .int (nI s)), (5, .int x), (6, .int y)] [] h [false, true] 6 hq rfl ⟨cy, cx2, trivial⟩ (fun _ => ?_)
              refine xa_tn 5 [0, 1, 2, 3, 4] [(0, .ref 39), (1, .int (nI a)), (2, .int (nI b)), (3, .int (hd_v p q)), (4, .int ((nI s) + Int32.ofInt 1))] [] h [false, true] 8 hq rfl ⟨cx, cy2, trivial⟩ (fun _ => ?_)
              rw [e]
              exact ih (s + 1) p q (by omega) ⟨fun z => hd_s1 (hp.mp z) (fun _ => by rw [ex]; exact x0), fun z => hp.mpr (hd_m z)⟩ hq1
        exact key _ _ rfl rfl
set_option maxRecDepth 100000 in
/-- the reference's held: bit 0 a is at least b, bit 1 b is at least a -/
theorem hd_run {d a b : Nat} {h : xh_H} {n : Nat} (hq : a_rq a_tb h) (ha : a ≤ 11) (hb : b ≤ 11) (hn : n ≤ 4096) (hall : xg 0 h.2.1 39 35 = nI n) : xt_P d xi_X10_held xmi_X10_held 0 [(0, .ref 39), (1, .int (nI a)), (2, .int (nI b))] [] h (fun v h' => h' = h ∧ ∃ p q : Bool, v = some (.int (hd_v p q)) ∧ (p = true ↔ hd_ge h n a b) ∧ (q = true ↔ hd_ge h n b a)) := by
  refine xa_tn 5 [0, 1, 2, 3, 4] [(0, .ref 39), (1, .int (nI a)), (2, .int (nI b)), (3, .int (Int32.ofInt 3)), (4, .int (Int32.ofInt 0))] [] h [] 6 hq rfl trivial (fun _ => ?_)
  exact hd_loop hq ha hb hn hall n 0 true true (by omega) ⟨fun _ s hs => by omega, fun _ => rfl⟩ ⟨fun _ s hs => by omega, fun _ => rfl⟩
end XHD
