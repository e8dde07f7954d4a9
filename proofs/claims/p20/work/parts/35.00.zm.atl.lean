section XAL
set_option maxRecDepth 100000 in
set_option maxHeartbeats 8000000 in
theorem ia_loop {d a b m q r : Nat} {h : xh_H} (hi : a_inw a_tb h) (hn : 72 ≤ h.1.length) (ha : a ≤ 11) (hb : b ≤ 11) (hm : m ≤ 12) (hf : xg 0 h.2.1 14 8 = nI (2 ^ m - 1)) (hl : xg none h.2.2.2 14 6 = some q) (hsq : h.1[q]? = some (0, 7)) (hbit : xg none h.2.2.2 q 1 = some r) (hsr : h.1[r]? = some (4, 64)) : ∀ (n s : Nat), s + n = 2 ^ m → al h r s a b → xt_P (d + 1) xi_X2_isAtLeast xmi_X2_isAtLeast 11 [(0, .ref 14), (1, .int (nI a)), (2, .int (nI b)), (3, .int (nI (2 ^ a ||| 2 ^ b))), (4, .int (nI s))] [] h (fun v h' => h = h' ∧ ∃ p : Bool, v = some (.int (cond p 1 0)) ∧ (p = true ↔ al h r (2 ^ m) a b)) := by
  have hq := a_rq_of hi hn
  have hs14 : h.1[14]? = some (0, 2) := hq.2.1 14 _ rfl
  have p12m : 2 ^ m ≤ 4096 := Nat.pow_le_pow_right (n := 2) (by decide) hm
  have pm0 : 0 < 2 ^ m := Nat.pow_pos (by decide)
  have fi := nI_toInt (n := 2 ^ m - 1) (by omega)
  intro n
  induction n with
  | zero =>
    intro s hs hal
    have e : s = 2 ^ m := by omega
    have si := nI_toInt (n := s) (by omega)
    refine xa_tn 68 [] [] [.int (Int32.ofInt 1)] h [true] 7 hq rfl ⟨xgt_t (show (xg 0 h.2.1 14 8).toInt < (nI s).toInt by rw [hf, fi, si]; omega), trivial⟩ (fun _ => ?_)
    rw [e] at hal
    exact xp_ret rfl rfl rfl ⟨rfl, true, rfl, Iff.intro (fun _ => hal) (fun _ => rfl)⟩
  | succ n ih =>
    intro s hs hal
    have si := nI_toInt (n := s) (by omega)
    have e1 : nI s + Int32.ofInt 1 = nI (s + 1) := nI_1 s
    have hgt : xe_c .gt (nI s) (xg 0 h.2.1 14 8) = false := xgt_f (by rw [hf, fi, si]; omega)
    have oa := nI_o1 (s := s) (a := a) ha
    have ob := nI_o1 (s := s) (a := b) hb
    have la := or12 (s := s) (a := a) (by omega) ha
    have lb := or12 (s := s) (a := b) (by omega) hb
    have ean : nI s &&& nI (2 ^ a ||| 2 ^ b) = nI (s &&& (2 ^ a ||| 2 ^ b)) := nI_and
    have lan : s &&& (2 ^ a ||| 2 ^ b) ≤ s := Nat.and_le_left
    have z0 : (0 : Int32).toInt = 0 := rfl
    by_cases hz : s &&& (2 ^ a ||| 2 ^ b) = 0
    · obtain ⟨sa, sb⟩ := and_bits.mp hz
      refine xa_tn 28 [0, 1, 2, 3, 4] [(0, .ref 14), (1, .int (nI a)), (2, .int (nI b)), (3, .int (nI (2 ^ a ||| 2 ^ b))), (4, .int (nI s))] [.ref 14] h [false, false] 11 hq rfl ⟨hgt, xne_f (show (nI s &&& nI (2 ^ a ||| 2 ^ b)).toInt = (0 : Int32).toInt by rw [ean, hz]; rfl), trivial⟩ (fun _ => ?_)
      refine xp_step rfl rfl (xe_gr hs14 rfl hl) ?_
      refine xa_tn 37 [0, 1, 2, 3, 4] [(0, .ref 14), (1, .int (nI a)), (2, .int (nI b)), (3, .int (nI (2 ^ a ||| 2 ^ b))), (4, .int (nI s))] [.int ((nI s) ||| ((Int32.ofInt 1) <<< ((nI b) &&& 31))), .ref q] h [] 7 hq rfl trivial (fun _ => ?_)
      rw [ob]
      refine xp_runs hsq rfl rfl (ho_run (d := d) hq hsq hbit hsr lb) ?_
      rintro v h1 ⟨rfl, rfl⟩
      cases hvb : hv h r (s ||| 2 ^ b) with
      | false =>
        refine xa_tn 11 [0, 1, 2, 3, 4] [(0, .ref 14), (1, .int (nI a)), (2, .int (nI b)), (3, .int (nI (2 ^ a ||| 2 ^ b))), (4, .int ((nI s) + Int32.ofInt 1))] [] h [true] 5 hq rfl ⟨rfl, trivial⟩ (fun _ => ?_)
        rw [e1]
        exact ih (s + 1) (by omega) (al_s1 hal (fun z => by rw [hvb] at z; cases z))
      | true =>
        refine xa_tn 44 [0, 1, 2, 3, 4] [(0, .ref 14), (1, .int (nI a)), (2, .int (nI b)), (3, .int (nI (2 ^ a ||| 2 ^ b))), (4, .int (nI s))] [.ref 14] h [false] 4 hq rfl ⟨rfl, trivial⟩ (fun _ => ?_)
        refine xp_step rfl rfl (xe_gr hs14 rfl hl) ?_
        refine xa_tn 53 [0, 1, 2, 3, 4] [(0, .ref 14), (1, .int (nI a)), (2, .int (nI b)), (3, .int (nI (2 ^ a ||| 2 ^ b))), (4, .int (nI s))] [.int ((nI s) ||| ((Int32.ofInt 1) <<< ((nI a) &&& 31))), .ref q] h [] 7 hq rfl trivial (fun _ => ?_)
        rw [oa]
        refine xp_runs hsq rfl rfl (ho_run (d := d) hq hsq hbit hsr la) ?_
        rintro v h1 ⟨rfl, rfl⟩
        cases hva : hv h r (s ||| 2 ^ a) with
        | true =>
          refine xa_tn 11 [0, 1, 2, 3, 4] [(0, .ref 14), (1, .int (nI a)), (2, .int (nI b)), (3, .int (nI (2 ^ a ||| 2 ^ b))), (4, .int ((nI s) + Int32.ofInt 1))] [] h [true] 5 hq rfl ⟨rfl, trivial⟩ (fun _ => ?_)
          rw [e1]
          exact ih (s + 1) (by omega) (al_s1 hal (fun _ => hva))
        | false =>
          refine xa_tn 60 [] [] [.int (Int32.ofInt 0)] h [false] 4 hq rfl ⟨rfl, trivial⟩ (fun _ => ?_)
          refine xp_ret rfl rfl rfl ⟨rfl, false, rfl, Iff.intro (fun z => Bool.noConfusion z) (fun z => ?_)⟩
          have := z s (by omega) sa sb hvb
          rw [hva] at this
          exact this
    · have hne : xe_c .ne (nI s &&& nI (2 ^ a ||| 2 ^ b)) 0 = true := xne_t (by rw [ean, nI_toInt (by omega), z0]; omega)
      refine xa_tn 11 [0, 1, 2, 3, 4] [(0, .ref 14), (1, .int (nI a)), (2, .int (nI b)), (3, .int (nI (2 ^ a ||| 2 ^ b))), (4, .int ((nI s) + Int32.ofInt 1))] [] h [false, true] 12 hq rfl ⟨hgt, hne, trivial⟩ (fun _ => ?_)
      rw [e1]
      refine ih (s + 1) (by omega) (al_s0 hal ?_)
      cases ta : s.testBit a with
      | true => exact Or.inl rfl
      | false =>
        cases tb2 : s.testBit b with
        | true => exact Or.inr rfl
        | false => exact absurd (and_bits.mpr ⟨ta, tb2⟩) hz
set_option maxRecDepth 100000 in
theorem ia_run {d a b m q r : Nat} {h : xh_H} (hi : a_inw a_tb h) (hn : 72 ≤ h.1.length) (ha : a ≤ 11) (hb : b ≤ 11) (hm : m ≤ 12) (hf : xg 0 h.2.1 14 8 = nI (2 ^ m - 1)) (hl : xg none h.2.2.2 14 6 = some q) (hsq : h.1[q]? = some (0, 7)) (hbit : xg none h.2.2.2 q 1 = some r) (hsr : h.1[r]? = some (4, 64)) : xt_P (d + 1) xi_X2_isAtLeast xmi_X2_isAtLeast 0 [(0, .ref 14), (1, .int (nI a)), (2, .int (nI b))] [] h (fun v h' => h = h' ∧ ∃ p : Bool, v = some (.int (cond p 1 0)) ∧ (p = true ↔ al h r (2 ^ m) a b)) := by
  refine xa_tn 11 [0, 1, 2, 3, 4] [(0, .ref 14), (1, .int (nI a)), (2, .int (nI b)), (3, .int (((Int32.ofInt 1) <<< ((nI a) &&& 31)) ||| ((Int32.ofInt 1) <<< ((nI b) &&& 31)))), (4, .int (Int32.ofInt 0))] [] h [] 12 (a_rq_of hi hn) rfl trivial (fun _ => ?_)
  rw [sh1 a (by omega), sh1 b (by omega), nI_or]
  exact ia_loop hi hn ha hb hm hf hl hsq hbit hsr (2 ^ m) 0 (by omega) (fun s hs => absurd hs (Nat.not_lt_zero s))
/-- only the table of who is at least as strong has changed -/
def hc (h0 h : xh_H) : Prop := a_inw a_tb h ∧ h.1 = h0.1 ∧ h.2.2 = h0.2.2 ∧ ∀ c k, c ≠ 19 → xg 0 h.2.1 c k = xg 0 h0.2.1 c k
theorem hc_ui {h0 h : xh_H} {k : Nat} {x : Int32} (g : hc h0 h) (hn : 72 ≤ h0.1.length) (h1 : 0 ≤ x.toInt) (h2 : x.toInt ≤ 4095) : hc h0 (xh_ui h 19 k x) := by
  obtain ⟨g1, g2, g3, g4⟩ := g
  have hn2 : 72 ≤ h.1.length := by rw [g2]; exact hn
  refine ⟨a_inw_ui (s := (1, 12)) (lo := 0) (hi := 4095) g1 ((a_rq_of g1 hn2).2.1 19 _ rfl) (by rw [a_tg_lt (by decide)]; rfl) h1 h2, g2, g3, fun c k hc2 => ?_⟩
  rw [gx_o hc2]
  exact g4 c k hc2
theorem al_c {h0 h : xh_H} {r n a b : Nat} (g : h.2.2 = h0.2.2) : al h r n a b ↔ al h0 r n a b := by
  have e : ∀ s, hv h r s = hv h0 r s := fun s => by unfold hv; rw [g]
  unfold al
  constructor
  · intro z s h1 h2 h3 h4
    rw [← e] at h4 ⊢
    exact z s h1 h2 h3 h4
  · intro z s h1 h2 h3 h4
    rw [e] at h4 ⊢
    exact z s h1 h2 h3 h4
set_option maxRecDepth 100000 in
set_option maxHeartbeats 8000000 in
theorem ca_in {d a m q r : Nat} {h0 : xh_H} {Q : Option Value → xh_H → Prop} (hn : 72 ≤ h0.1.length) (ha : a < m) (hm : m ≤ 12) (hmm : xg 0 h0.2.1 14 7 = nI m) (hf : xg 0 h0.2.1 14 8 = nI (2 ^ m - 1)) (hl : xg none h0.2.2.2 14 6 = some q) (hsq : h0.1[q]? = some (0, 7)) (hbit : xg none h0.2.2.2 q 1 = some r) (hsr : h0.1[r]? = some (4, 64)) {g : Nat → Int32}
    (K : ∀ h' w, hc h0 h' → (∀ c, c ≠ a → xg 0 h'.2.1 19 c = g c) → xg 0 h'.2.1 19 a = nI w → w < 4096 → (∀ b, b < m → (w.testBit b = true ↔ al h0 r (2 ^ m) a b)) → xt_P (d + 2) xi_X2_compareAll xmi_X2_compareAll 2 [(0, .ref 14), (1, .int (nI (a + 1)))] [] h' Q) :
    ∀ (n b : Nat) (h : xh_H) (w : Nat), b + n = m → hc h0 h → (∀ c, c ≠ a → xg 0 h.2.1 19 c = g c) → xg 0 h.2.1 19 a = nI w → w < 4096 → (∀ b', b' < b → (w.testBit b' = true ↔ al h0 r (2 ^ m) a b')) → (∀ b', b ≤ b' → w.testBit b' = false) → xt_P (d + 2) xi_X2_compareAll xmi_X2_compareAll 19 [(0, .ref 14), (1, .int (nI a)), (2, .int (nI b))] [] h Q := by
  have e1 : nI a + Int32.ofInt 1 = nI (a + 1) := nI_1 a
  have eac : (nI a).toNatClampNeg = a := nI_clamp (by omega)
  have hina := xin_n (k := a) (n := 12) (by omega) (by omega)
  intro n
  induction n with
  | zero =>
    intro b h w hb hh hg hw w1 w2 w3
    have e : b = m := by omega
    subst e
    have hq := a_rq_of hh.1 (by rw [hh.2.1]; exact hn)
    refine xa_tn 2 [0, 1] [(0, .ref 14), (1, .int ((nI a) + Int32.ofInt 1))] [] h [true] 8 hq rfl ⟨(show xe_c .ge (nI b) (xg 0 h.2.1 14 7) = true by rw [hh.2.2.2 14 7 (by decide), hmm]; exact nge_t (by omega) (by omega) (Nat.le_refl _)), trivial⟩ (fun _ => ?_)
    rw [e1]
    exact K h w hh hg hw w1 w2
  | succ n ih =>
    intro b h w hb hh hg hw w1 w2 w3
    have hn1 : 72 ≤ h.1.length := by rw [hh.2.1]; exact hn
    have hq := a_rq_of hh.1 hn1
    have e2 : nI b + Int32.ofInt 1 = nI (b + 1) := nI_1 b
    refine xa_tn 30 [0, 1, 2] [(0, .ref 14), (1, .int (nI a)), (2, .int (nI b))] [.int (nI b), .int (nI a), .ref 14] h [false] 9 hq rfl ⟨(show xe_c .ge (nI b) (xg 0 h.2.1 14 7) = false by rw [hh.2.2.2 14 7 (by decide), hmm]; exact nge_f (by omega) (by omega) (by omega)), trivial⟩ (fun _ => ?_)
    refine xp_run hq rfl rfl (ia_run (d := d) (m := m) (q := q) (r := r) hh.1 hn1 (by omega) (by omega) hm (by rw [hh.2.2.2 14 8 (by decide)]; exact hf) (by rw [hh.2.2.1]; exact hl) (by rw [hh.2.1]; exact hsq) (by rw [hh.2.2.1]; exact hbit) (by rw [hh.2.1]; exact hsr)) ?_
    rintro v h1 ⟨rfl, p, rfl, hp⟩
    rw [al_c hh.2.2.1] at hp
    cases p with
    | false =>
      refine xa_tn 19 [0, 1, 2] [(0, .ref 14), (1, .int (nI a)), (2, .int ((nI b) + Int32.ofInt 1))] [] h [true] 5 hq rfl ⟨rfl, trivial⟩ (fun _ => ?_)
      rw [e2]
      refine ih (b + 1) h w (by omega) hh hg hw w1 (fun b' hb' => ?_) (fun b' hb' => w3 b' (by omega))
      by_cases e : b' = b
      · subst e
        rw [w3 b' (Nat.le_refl _)]
        exact hp
      · exact w2 b' (by omega)
    | true =>
      refine xa_tn 19 [0, 1, 2] [(0, .ref 14), (1, .int (nI a)), (2, .int ((nI b) + Int32.ofInt 1))] [] (xh_ui h 19 (nI a).toNatClampNeg ((xg 0 h.2.1 19 (nI a).toNatClampNeg) ||| ((Int32.ofInt 1) <<< ((nI b) &&& 31)))) [false] 15 hq rfl ⟨rfl, hina, hina, trivial⟩ (fun _ => ?_)
      have lw := or12 (s := w) (a := b) w1 (by omega)
      rw [e2, eac, hw, nI_o1 (by omega)]
      have wi := nI_toInt (n := w ||| 2 ^ b) (by omega)
      refine ih (b + 1) _ (w ||| 2 ^ b) (by omega) (hc_ui hh hn (by omega) (by omega)) (fun c hc2 => by rw [gx_k hc2]; exact hg c hc2) gx_s lw (fun b' hb' => ?_) (fun b' hb' => ?_)
      · rw [Nat.testBit_or, tb_p]
        by_cases e : b' = b
        · subst e
          rw [decide_eq_true rfl, Bool.or_true]
          exact hp
        · rw [decide_eq_false (fun z => e z.symm), Bool.or_false]
          exact w2 b' (by omega)
      · rw [Nat.testBit_or, tb_p, w3 b' (by omega), decide_eq_false (by omega)]
        rfl
set_option maxRecDepth 100000 in
set_option maxHeartbeats 8000000 in
/-- compareAll: the table is who is at least as strong -/
theorem ca_loop {d m q r : Nat} {h0 : xh_H} (hn : 72 ≤ h0.1.length) (hm : m ≤ 12) (hmm : xg 0 h0.2.1 14 7 = nI m) (hf : xg 0 h0.2.1 14 8 = nI (2 ^ m - 1)) (hl : xg none h0.2.2.2 14 6 = some q) (hsq : h0.1[q]? = some (0, 7)) (hbit : xg none h0.2.2.2 q 1 = some r) (hsr : h0.1[r]? = some (4, 64)) : ∀ (n a : Nat) (h : xh_H), a + n = m → hc h0 h → (∀ a' b, a' < a → b < m → (a_ge h a' b ↔ al h0 r (2 ^ m) a' b)) → xt_P (d + 2) xi_X2_compareAll xmi_X2_compareAll 2 [(0, .ref 14), (1, .int (nI a))] [] h (fun v h' => v = none ∧ hc h0 h' ∧ ∀ a' b, a' < m → b < m → (a_ge h' a' b ↔ al h0 r (2 ^ m) a' b)) := by
  intro n
  induction n with
  | zero =>
    intro a h ha hh hg
    have e : a = m := by omega
    subst e
    have hq := a_rq_of hh.1 (by rw [hh.2.1]; exact hn)
    refine xa_tn 60 [] [] [] h [true] 6 hq rfl ⟨(show xe_c .ge (nI a) (xg 0 h.2.1 14 7) = true by rw [hh.2.2.2 14 7 (by decide), hmm]; exact nge_t (by omega) (by omega) (Nat.le_refl _)), trivial⟩ (fun _ => ?_)
    exact xp_ret rfl rfl rfl ⟨rfl, hh, hg⟩
  | succ n ih =>
    intro a h ha hh hg
    have hq := a_rq_of hh.1 (by rw [hh.2.1]; exact hn)
    refine xa_tn 19 [0, 1, 2] [(0, .ref 14), (1, .int (nI a)), (2, .int (Int32.ofInt 0))] [] (xh_ui h 19 (nI a).toNatClampNeg (Int32.ofInt 0)) [false] 13 hq rfl ⟨(show xe_c .ge (nI a) (xg 0 h.2.1 14 7) = false by rw [hh.2.2.2 14 7 (by decide), hmm]; exact nge_f (by omega) (by omega) (by omega)), xin_n (by omega) (by omega), trivial⟩ (fun _ => ?_)
    rw [nI_clamp (by omega)]
    refine ca_in (g := fun c => xg 0 h.2.1 19 c) hn (by omega) hm hmm hf hl hsq hbit hsr ?_ m 0 _ 0 (by omega) (hc_ui hh hn (by decide) (by decide)) (fun c hc2 => gx_k hc2) gx_s (by decide) (fun b' hb' => absurd hb' (Nat.not_lt_zero b')) (fun b' _ => Nat.zero_testBit b')
    intro h1 w hh1 g1 ew w1 w2
    refine ih (a + 1) h1 (by omega) hh1 (fun a' b ha' hb => ?_)
    by_cases e : a' = a
    · subst e
      unfold a_ge
      rw [ew, nI_toInt (by omega)]
      exact w2 b hb
    · unfold a_ge
      rw [g1 a' e]
      exact hg a' b (by omega) hb
set_option maxRecDepth 100000 in
theorem ca_run {d m q r : Nat} {h : xh_H} (hi : a_inw a_tb h) (hn : 72 ≤ h.1.length) (hm : m ≤ 12) (hmm : xg 0 h.2.1 14 7 = nI m) (hf : xg 0 h.2.1 14 8 = nI (2 ^ m - 1)) (hl : xg none h.2.2.2 14 6 = some q) (hsq : h.1[q]? = some (0, 7)) (hbit : xg none h.2.2.2 q 1 = some r) (hsr : h.1[r]? = some (4, 64)) : xt_P (d + 2) xi_X2_compareAll xmi_X2_compareAll 0 [(0, .ref 14)] [] h (fun v h' => v = none ∧ hc h h' ∧ ∀ a' b, a' < m → b < m → (a_ge h' a' b ↔ al h r (2 ^ m) a' b)) := by
  refine xa_tn 2 [0, 1] [(0, .ref 14), (1, .int (Int32.ofInt 0))] [] h [] 4 (a_rq_of hi hn) rfl trivial (fun _ => ?_)
  exact ca_loop hn hm hmm hf hl hsq hbit hsr m 0 h (by omega) ⟨hi, rfl, rfl, fun _ _ _ => rfl⟩ (fun a' b ha' => absurd ha' (Nat.not_lt_zero a'))
end XAL
