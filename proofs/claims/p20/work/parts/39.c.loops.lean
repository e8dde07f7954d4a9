section XRL
/-- a row of an array has been written, from its first place on -/
def rl (h0 : xh_H) (c B : Nat) (F : Nat → Int32) (s : Nat) (h : xh_H) : Prop := h.1 = h0.1 ∧ h.2.2 = h0.2.2 ∧ ∀ c' k', xg 0 h.2.1 c' k' = if c' = c ∧ B ≤ k' ∧ k' < B + s then F (k' - B) else xg 0 h0.2.1 c' k'
variable {h0 h hh : xh_H} {c B s : Nat} {F : Nat → Int32} {tb : aT} {md : List (Nat × Nat)}
theorem rl_0 : rl h0 c B F 0 h0 := ⟨rfl, rfl, fun c' k' => by rw [if_neg (by omega)]⟩
theorem rl_s (g : rl h0 c B F s h) : rl h0 c B F (s + 1) (xh_ui h c (B + s) (F s)) := by
  obtain ⟨g1, g2, g3⟩ := g
  refine ⟨g1, g2, fun c' k' => ?_⟩
  by_cases e : c' = c ∧ k' = B + s
  · obtain ⟨rfl, rfl⟩ := e
    rw [gx_s, if_pos ⟨rfl, by omega, by omega⟩, Nat.add_sub_cancel_left]
  · rw [gx_i e, g3]
    by_cases e2 : c' = c ∧ B ≤ k' ∧ k' < B + s
    · rw [if_pos e2, if_pos ⟨e2.1, e2.2.1, by omega⟩]
    · rw [if_neg e2, if_neg]
      rintro ⟨z1, z2, z3⟩
      by_cases z4 : k' = B + s
      · exact e ⟨z1, z4⟩
      · exact e2 ⟨z1, z2, by omega⟩
theorem rl_o {c' k' : Nat} (g : rl h0 c B F s h) (hk' : ¬ (c' = c ∧ B ≤ k' ∧ k' < B + s)) : xg 0 h.2.1 c' k' = xg 0 h0.2.1 c' k' := by rw [g.2.2, if_neg hk']
theorem rl_i {j : Nat} (g : rl h0 c B F s h) (hj : j < s) : xg 0 h.2.1 c (B + j) = F j := by rw [g.2.2, if_pos ⟨rfl, by omega, by omega⟩, Nat.add_sub_cancel_left]
theorem rl_q (g : rl h0 c B F s h) (hq : a_rq tb h0) : a_rq tb h := by
  obtain ⟨g1, g2, -⟩ := g
  refine ⟨by rw [g1]; exact hq.1, fun c s hs => by rw [g1]; exact hq.2.1 c s hs, fun c k ci t h1 h2 => ?_⟩
  rw [g2]
  exact hq.2.2 c k ci t h1 h2
/-- .. and the heap keeps its bounds -/
theorem rl_hk {kd sz : Nat} {lo hi : Int} (g : rl h0 c B F s h) (hk0 : hk md hh h0) (hn : 72 ≤ hh.1.length) (hs : a_sh[c]? = some (kd, sz)) (hkd : kd ≠ 0) (he : a_ent a_tb (kd, sz) c 0 = (0, lo, hi)) (hF : ∀ j, j < s → lo ≤ (F j).toInt ∧ (F j).toInt ≤ hi) (hj : ∀ k, a_jc c k = false) (hm : ∀ k, a_mb md c k = true) : hk md hh h := by
  obtain ⟨g1, g2, g3⟩ := g
  have hc := a_sh_lt hs
  refine ⟨⟨?_, a_J_of hk0.1.2 (fun c' k' e => ?_)⟩, g1.trans hk0.2.1, fun c' k' hz hm' => ?_⟩
  · intro c' s' hs'
    rw [g1] at hs'
    obtain ⟨a1, a2⟩ := hk0.1.1 c' s' hs'
    refine ⟨a1, fun k hk' => ?_⟩
    have a3 := a2 k hk'
    by_cases e : c' = c
    · subst e
      have e3 : s' = (kd, sz) := by
        rw [a_tg_lt hc, hs] at a1
        exact (Option.some.inj a1).symm
      subst e3
      rw [a_tg_lt hc, a_ent0 hkd, he] at a3 ⊢
      have a3 : lo ≤ (xg 0 h0.2.1 c' k).toInt ∧ (xg 0 h0.2.1 c' k).toInt ≤ hi := a3
      show lo ≤ (xg 0 h.2.1 c' k).toInt ∧ (xg 0 h.2.1 c' k).toInt ≤ hi
      rw [g3]
      split
      · rename_i z
        exact hF _ (by omega)
      · exact a3
    · have ex : xg 0 h.2.1 c' k = xg 0 h0.2.1 c' k := by rw [g3, if_neg (fun z => e z.1)]
      unfold a_e at a3 ⊢
      rw [ex, g2, g1]
      exact a3
  · rw [g3, if_neg]
    rintro ⟨rfl, -⟩
    rw [hj] at e
    cases e
  · rw [g3, if_neg]
    · exact hk0.2.2 c' k' hz hm'
    · rintro ⟨rfl, -⟩
      exact hm' (a_mb_t (hm k'))
/-- a counting loop that writes a row -/
theorem rl_loop {N : Nat} {P : Nat → xh_H → Prop} (step : ∀ s h, s < N → rl h0 c B F s h → P (s + 1) (xh_ui h c (B + s) (F s)) → P s h) (fin : ∀ h, rl h0 c B F N h → P N h) : P 0 h0 := by
  have main : ∀ n s h, s + n = N → rl h0 c B F s h → P s h := by
    intro n
    induction n with
    | zero =>
      intro s h hs g
      have e : s = N := by omega
      subst e
      exact fin h g
    | succ n ih =>
      intro s h hs g
      exact step s h (by omega) g (ih (s + 1) _ (by omega) (rl_s g))
  exact main N 0 h0 (by omega) rl_0
/-- .. two rows at once: the second is written over the first one's heap -/
def rl2 (h0 : xh_H) (c1 c2 B : Nat) (F1 F2 : Nat → Int32) (s : Nat) (h : xh_H) : Prop := h.1 = h0.1 ∧ h.2.2 = h0.2.2 ∧ ∀ c' k', xg 0 h.2.1 c' k' = if c' = c1 ∧ B ≤ k' ∧ k' < B + s then F1 (k' - B) else if c' = c2 ∧ B ≤ k' ∧ k' < B + s then F2 (k' - B) else xg 0 h0.2.1 c' k'
variable {c1 c2 : Nat} {F1 F2 : Nat → Int32}
theorem rl2_s (hne : c1 ≠ c2) (g : rl2 h0 c1 c2 B F1 F2 s h) : rl2 h0 c1 c2 B F1 F2 (s + 1) (xh_ui (xh_ui h c1 (B + s) (F1 s)) c2 (B + s) (F2 s)) := by
  obtain ⟨g1, g2, g3⟩ := g
  refine ⟨g1, g2, fun c' k' => ?_⟩
  by_cases e : c' = c2 ∧ k' = B + s
  · obtain ⟨rfl, rfl⟩ := e
    rw [gx_s, if_neg (fun z => hne z.1.symm), if_pos ⟨rfl, by omega, by omega⟩, Nat.add_sub_cancel_left]
  · rw [gx_i e]
    by_cases e1 : c' = c1 ∧ k' = B + s
    · obtain ⟨rfl, rfl⟩ := e1
      rw [gx_s, if_pos ⟨rfl, by omega, by omega⟩, Nat.add_sub_cancel_left]
    · rw [gx_i e1, g3]
      by_cases e2 : c' = c1 ∧ B ≤ k' ∧ k' < B + s
      · rw [if_pos e2, if_pos ⟨e2.1, e2.2.1, by omega⟩]
      · have n2 : ¬ (c' = c1 ∧ B ≤ k' ∧ k' < B + (s + 1)) := by
          rintro ⟨z1, z2, z3⟩
          by_cases z4 : k' = B + s
          · exact e1 ⟨z1, z4⟩
          · exact e2 ⟨z1, z2, by omega⟩
        rw [if_neg e2, if_neg n2]
        by_cases e3 : c' = c2 ∧ B ≤ k' ∧ k' < B + s
        · rw [if_pos e3, if_pos ⟨e3.1, e3.2.1, by omega⟩]
        · rw [if_neg e3, if_neg]
          rintro ⟨z1, z2, z3⟩
          by_cases z4 : k' = B + s
          · exact e ⟨z1, z4⟩
          · exact e3 ⟨z1, z2, by omega⟩
theorem rl2_q (g : rl2 h0 c1 c2 B F1 F2 s h) (hq : a_rq tb h0) : a_rq tb h := by
  obtain ⟨g1, g2, -⟩ := g
  refine ⟨by rw [g1]; exact hq.1, fun c s hs => by rw [g1]; exact hq.2.1 c s hs, fun c k ci t h1 h2 => ?_⟩
  rw [g2]
  exact hq.2.2 c k ci t h1 h2
theorem rl2_o {c' k' : Nat} (g : rl2 h0 c1 c2 B F1 F2 s h) (n1 : ¬ (c' = c1 ∧ B ≤ k' ∧ k' < B + s)) (n2 : ¬ (c' = c2 ∧ B ≤ k' ∧ k' < B + s)) : xg 0 h.2.1 c' k' = xg 0 h0.2.1 c' k' := by rw [g.2.2, if_neg n1, if_neg n2]
theorem rl2_1 {j : Nat} (g : rl2 h0 c1 c2 B F1 F2 s h) (hj : j < s) : xg 0 h.2.1 c1 (B + j) = F1 j := by rw [g.2.2, if_pos ⟨rfl, by omega, by omega⟩, Nat.add_sub_cancel_left]
theorem rl2_2 {j : Nat} (hne : c1 ≠ c2) (g : rl2 h0 c1 c2 B F1 F2 s h) (hj : j < s) : xg 0 h.2.1 c2 (B + j) = F2 j := by rw [g.2.2, if_neg (fun z => hne z.1.symm), if_pos ⟨rfl, by omega, by omega⟩, Nat.add_sub_cancel_left]
theorem rl2_loop {N : Nat} {P : Nat → xh_H → Prop} (hne : c1 ≠ c2) (step : ∀ s h, s < N → rl2 h0 c1 c2 B F1 F2 s h → P (s + 1) (xh_ui (xh_ui h c1 (B + s) (F1 s)) c2 (B + s) (F2 s)) → P s h) (fin : ∀ h, rl2 h0 c1 c2 B F1 F2 N h → P N h) : P 0 h0 := by
  have main : ∀ n s h, s + n = N → rl2 h0 c1 c2 B F1 F2 s h → P s h := by
    intro n
    induction n with
    | zero =>
      intro s h hs g
      have e : s = N := by omega
      subst e
      exact fin h g
    | succ n ih =>
      intro s h hs g
      exact step s h (by omega) g (ih (s + 1) _ (by omega) (rl2_s hne g))
  exact main N 0 h0 (by omega) ⟨rfl, rfl, fun c' k' => by rw [if_neg (by omega), if_neg (by omega)]⟩
/-- two rows are one row, and another one over it -/
theorem rl2_hk {k1 z1 k2 z2 : Nat} {l1 u1 l2 u2 : Int} (hne : c1 ≠ c2) (g : rl2 h0 c1 c2 B F1 F2 s h) (hk0 : hk md hh h0) (hn : 72 ≤ hh.1.length) (hs1 : a_sh[c1]? = some (k1, z1)) (hs2 : a_sh[c2]? = some (k2, z2)) (hd1 : k1 ≠ 0) (hd2 : k2 ≠ 0) (he1 : a_ent a_tb (k1, z1) c1 0 = (0, l1, u1)) (he2 : a_ent a_tb (k2, z2) c2 0 = (0, l2, u2)) (hF1 : ∀ j, j < s → l1 ≤ (F1 j).toInt ∧ (F1 j).toInt ≤ u1) (hF2 : ∀ j, j < s → l2 ≤ (F2 j).toInt ∧ (F2 j).toInt ≤ u2) (hj1 : ∀ k, a_jc c1 k = false) (hj2 : ∀ k, a_jc c2 k = false) (hm1 : ∀ k, a_mb md c1 k = true) (hm2 : ∀ k, a_mb md c2 k = true) : hk md hh h := by
  have mid : ∀ s, ∃ m : xh_H, rl h0 c1 B F1 s m := by
    intro s
    induction s with
    | zero => exact ⟨h0, rl_0⟩
    | succ s ih =>
      obtain ⟨m, hm⟩ := ih
      exact ⟨_, rl_s hm⟩
  obtain ⟨m, hm⟩ := mid s
  have hkm := rl_hk hm hk0 hn hs1 hd1 he1 hF1 hj1 hm1
  refine rl_hk (h0 := m) (c := c2) (B := B) (F := F2) (s := s) ⟨g.1.trans hm.1.symm, g.2.1.trans hm.2.1.symm, fun c' k' => ?_⟩ hkm hn hs2 hd2 he2 hF2 hj2 hm2
  rw [g.2.2, hm.2.2]
  by_cases e1 : c' = c1 ∧ B ≤ k' ∧ k' < B + s
  · rw [if_pos e1, if_neg (fun z => hne (e1.1.symm.trans z.1)), if_pos e1]
  · rw [if_neg e1, if_neg e1]
end XRL
