section XED
theorem rl_k {h0 h : xh_H} {c B s : Nat} {F : Nat → Int32} (g : rl h0 c B F s h) (e : F s = xg 0 h0.2.1 c (B + s)) : rl h0 c B F (s + 1) h := by
  obtain ⟨g1, g2, g3⟩ := g
  refine ⟨g1, g2, fun c' k' => ?_⟩
  rw [g3]
  by_cases e2 : c' = c ∧ B ≤ k' ∧ k' < B + s
  · rw [if_pos e2, if_pos ⟨e2.1, e2.2.1, by omega⟩]
  · rw [if_neg e2]
    by_cases e3 : c' = c ∧ B ≤ k' ∧ k' < B + (s + 1)
    · rw [if_pos e3]
      have ek : k' = B + s := by
        have := e3
        omega
      rw [ek, Nat.add_sub_cancel_left, e, e3.1]
    · rw [if_neg e3]
theorem rl_loop' {h0 : xh_H} {c B : Nat} {F : Nat → Int32} {N : Nat} {P : Nat → xh_H → Prop} (step : ∀ s h, s < N → rl h0 c B F s h → (∀ h', rl h0 c B F (s + 1) h' → P (s + 1) h') → P s h) (fin : ∀ h, rl h0 c B F N h → P N h) : P 0 h0 := by
  have main : ∀ n s h, s + n = N → rl h0 c B F s h → P s h := by
    intro n
    induction n with
    | zero =>
      intro s h hs g
      have e : s = N := by omega
      subst e
      exact fin h g
    | succ n ih =>
      intro s h hs g
      exact step s h (by omega) g (fun h' g' => ih (s + 1) h' (by omega) g')
  exact main N 0 h0 (by omega) rl_0
theorem nz_mo {f : Nat → Int32} {s t : Nat} (hm : a_mono (fun s => (f s).toInt) 4096) (h0 : 0 ≤ (f s).toInt) (hs : s < 4096) (ht : t < 4096) (hst : s &&& t = s) (hne : f s ≠ 0) : f t ≠ 0 := by
  have h1 := hm s t hs ht hst
  dsimp only at h1
  intro z
  rw [z] at h1
  have z0 : (0 : Int32).toInt = 0 := rfl
  exact hne (Int32.toInt_inj.mp (by omega))
theorem bl_mo {p : Nat → Bool} (h : ∀ s t, s < 4096 → t < 4096 → s &&& t = s → p s = true → p t = true) : a_mono (fun s => (bl (p s)).toInt) 4096 := by
  intro s t hs ht hst
  have := h s t hs ht hst
  dsimp only
  cases hp : p s with
  | false => cases p t <;> decide
  | true =>
    rw [this hp]
    exact Int.le_refl _
theorem bl_b {p : Bool} : 0 ≤ (bl p).toInt ∧ (bl p).toInt ≤ 1 := by cases p <;> decide
theorem bl_n {p : Bool} : vp_nar .boolean (bl p) = bl p := by cases p <;> rfl
abbrev ed_md : List (Nat × Nat) := (39, 30) :: bg_md
/-- what an ending leaves -/
def ed_Q (h : xh_H) (sz : Nat) (B : Int) (v : Option Value) (h' : xh_H) : Prop := hk ed_md h h' ∧ (v = some (.int 0) ∨ (v = some (.int 1) ∧ ((xg 0 h'.2.1 39 30 = 1 ∧ pi h' sz ∧ mo h' 45 0 ∧ kd h' = 4 ∧ fr h' = fr h) ∨ (xg 0 h'.2.1 39 30 = 0 ∧ rI h' sz (B + 9999) ∧ ((fr h < fr h' ∧ (xg 0 h'.2.1 39 29 = 1 ∨ (xg 0 h'.2.1 39 29 = 0 ∧ mo h' 45 0))) ∨ (fr h' = fr h ∧ xg 0 h'.2.1 39 29 = 1))))))
theorem lvo_B {h : xh_H} {t : Nat} {B B' : Int} (hB : B ≤ B') (g : lvo h t B) : lvo h t B' := ⟨fun z => ⟨(g.1 z).1, fun s hs => ⟨((g.1 z).2 s hs).1, by have := ((g.1 z).2 s hs).2; omega⟩⟩, g.2⟩
theorem rI_B {h : xh_H} {sz : Nat} {B B' : Int} (hB : B ≤ B') (g : rI h sz B) : rI h sz B' := by
  obtain ⟨g1, g2, tp, g3, g4, g5⟩ := g
  exact ⟨g1, g2, tp, g3, g4, fun t ht => lvo_B hB (g5 t ht)⟩
/-- a level is closed -/
theorem rI_dn {h : xh_H} {sz tp : Nat} {B : Int} (g : rI h sz B) (htp : xg 0 h.2.1 39 28 = nI (tp + 1)) (hk0 : hk bg_md h (xh_ui h 39 28 (nI tp))) (t12 : tp + 1 ≤ 12) : rI (xh_ui h 39 28 (nI tp)) sz B := by
  obtain ⟨g1, g2, tp', g3, g4, g5⟩ := g
  have e : tp' = tp + 1 := (nI_eq (by omega) (by omega)).mp (by rw [← g3]; exact htp)
  subst e
  exact ⟨pi_tr g1 hk0 (go_Pc g1.2.2.2.1 (fun j j1 j2 => gx_k (by omega))), by rw [gx_o (by decide)]; exact g2, tp, gx_s, by omega, fun t ht => lvo_c (g5 t (by omega)) (fun _ _ => gx_o (by decide)) (fun _ _ => gx_o (by decide)) (fun _ _ => gx_o (by decide)) (gx_o (by decide))⟩
theorem nIa {a s : Nat} : nI a + nI s = nI (a + s) := nI_add a s
set_option maxRecDepth 100000 in
set_option maxHeartbeats 16000000 in
/-- X10.end of a list's item -/
theorem el_run {d sz tp : Nat} {B : Int} {h : xh_H} (hB0 : 0 ≤ B) (hB : B ≤ 20000000) (hn : 72 ≤ h.1.length) (g : rI h sz B) (h45 : mo h 45 0) (h30 : xg 0 h.2.1 39 30 = 0) (h29 : xg 0 h.2.1 39 29 = 0) (htp : xg 0 h.2.1 39 28 = nI tp) (t12 : tp ≤ 12) (h47 : xg 0 h.2.1 47 tp = 2) : xt_P (d + 2) xi_X10_end_ xmi_X10_end_ 24 [(0, .ref 39), (1, .int (nI (4096 * tp))), (2, .int (Int32.ofInt 0))] [] h (ed_Q h sz B) := by
  have hq := a_rq_of g.1.1.1 hn
  have etc : (nI tp).toNatClampNeg = tp := nI_clamp (by omega)
  have hlv : lvo h tp B := by
    obtain ⟨-, -, tp', a, b, c⟩ := g
    have e : tp' = tp := (nI_eq (by omega) (by omega)).mp (by rw [← a]; exact htp)
    subst e
    exact c tp' (Nat.le_refl _)
  obtain ⟨sm, sb⟩ := hlv.1 h47
  have wb := a_elx (c := 48) (k := tp) (lo := 0) (hi := 9999) g.1.1.1 hn rfl rfl (by omega)
  have tp0 : 1 ≤ tp := by
    rcases Nat.eq_zero_or_pos tp with z | z
    · subst z
      rw [g.2.1] at h47
      exact absurd h47 (by decide)
    · exact z
  generalize hw : xg 0 h.2.1 48 tp = w at wb
  have ob : ∀ s, s < 4096 → 0 ≤ (xg 0 h.2.1 45 s).toInt ∧ (xg 0 h.2.1 45 s).toInt ≤ 1 := fun s hs => a_blx (c := 45) (k := s) (lo := 0) (hi := 1) g.1.1.1 hn rfl rfl hs
  have F1b : ∀ s, s < 4096 → (cond (decide (xg 0 h.2.1 45 s = 0)) (xg 0 h.2.1 46 (4096 * tp + s)) (xg 0 h.2.1 46 (4096 * tp + s) + w)).toInt = (xg 0 h.2.1 46 (4096 * tp + s)).toInt + (if xg 0 h.2.1 45 s = 0 then 0 else w.toInt) := by
    intro s hs
    by_cases z : xg 0 h.2.1 45 s = 0
    · rw [decide_eq_true z, if_pos z]
      show (xg 0 h.2.1 46 (4096 * tp + s)).toInt = _
      omega
    · rw [decide_eq_false z, if_neg z]
      have := sb s hs
      exact i_add (by omega) (by omega)
  have m45 : a_mono (fun s => (xg 0 h.2.1 45 s).toInt) 4096 := by
    intro s t hs ht hst
    have := h45 s t hs ht hst
    dsimp only at this ⊢
    rw [Nat.zero_add, Nat.zero_add] at this
    exact this
  refine rl_loop' (h0 := h) (c := 46) (B := 4096 * tp) (F := fun s => cond (decide (xg 0 h.2.1 45 s = 0)) (xg 0 h.2.1 46 (4096 * tp + s)) (xg 0 h.2.1 46 (4096 * tp + s) + w)) (N := 4096) (P := fun s h' => xt_P (d + 2) xi_X10_end_ xmi_X10_end_ 24 [(0, .ref 39), (1, .int (nI (4096 * tp))), (2, .int (nI s))] [] h' (ed_Q h sz B)) ?_ ?_
  · intro s h2 hs gl K
    have q2 := rl_q gl hq
    have hge : xe_c .ge (nI s) 4096 = false := nge_f (b := 4096) (by omega) (by omega) hs
    have hin := xin_n (k := s) (n := 4096) hs (by omega)
    have e1 : nI s + Int32.ofInt 1 = nI (s + 1) := nI_1 s
    have ecl : (nI s).toNatClampNeg = s := nI_clamp (by omega)
    have e45 : xg 0 h2.2.1 45 s = xg 0 h.2.1 45 s := rl_o gl (by omega)
    have e46 : xg 0 h2.2.1 46 (4096 * tp + s) = xg 0 h.2.1 46 (4096 * tp + s) := rl_o gl (by omega)
    have e28 : xg 0 h2.2.1 39 28 = nI tp := by rw [rl_o gl (by omega)]; exact htp
    have e48 : xg 0 h2.2.1 48 tp = w := by rw [rl_o gl (by omega)]; exact hw
    cases c1 : xe_c .eq (xg 0 h.2.1 45 s) 0 with
    | true =>
      refine xa_tn 24 [0, 1, 2] [(0, .ref 39), (1, .int (nI (4096 * tp))), (2, .int ((nI s) + Int32.ofInt 1))] [] h2 [false, true] 12 q2 rfl ⟨hge, hin, (show xe_c .eq (xg 0 h2.2.1 45 (nI s).toNatClampNeg) 0 = true by rw [ecl, e45]; exact c1), trivial⟩ (fun _ => ?_)
      rw [e1]
      exact K h2 (rl_k gl (by rw [show decide (xg 0 h.2.1 45 s = 0) = true from c1]; rfl))
    | false =>
      have hin2 : xe_in ((nI (4096 * tp)) + (nI s)) 53248 = true := by rw [nIa]; exact xin_n (by omega) (by omega)
      refine xa_tn 24 [0, 1, 2] [(0, .ref 39), (1, .int (nI (4096 * tp))), (2, .int ((nI s) + Int32.ofInt 1))] [] (xh_ui h2 46 ((nI (4096 * tp)) + (nI s)).toNatClampNeg ((xg 0 h2.2.1 46 ((nI (4096 * tp)) + (nI s)).toNatClampNeg) + (xg 0 h2.2.1 48 (xg 0 h2.2.1 39 28).toNatClampNeg))) [false, false] 26 q2 rfl ⟨hge, hin, (show xe_c .eq (xg 0 h2.2.1 45 (nI s).toNatClampNeg) 0 = false by rw [ecl, e45]; exact c1), hin2, (show xe_in (xg 0 h2.2.1 39 28) 13 = true by rw [e28]; exact xin_n (by omega) (by omega)), hin2, trivial⟩ (fun _ => ?_)
      rw [nIa, nI_clamp (n := 4096 * tp + s) (by omega), e28, etc, e48, e46, e1]
      refine K _ ?_
      have := rl_s gl
      rw [show decide (xg 0 h.2.1 45 s = 0) = false from c1] at this
      exact this
  · intro h2 gl
    have q2 := rl_q gl hq
    have F1r : ∀ s, s < 4096 → -2147483648 ≤ (cond (decide (xg 0 h.2.1 45 s = 0)) (xg 0 h.2.1 46 (4096 * tp + s)) (xg 0 h.2.1 46 (4096 * tp + s) + w)).toInt ∧ (cond (decide (xg 0 h.2.1 45 s = 0)) (xg 0 h.2.1 46 (4096 * tp + s)) (xg 0 h.2.1 46 (4096 * tp + s) + w)).toInt ≤ 2147483647 := fun s _ => ar_rng _
    have hk2 : hk bg_md h h2 := rl_hk (kd := 1) (sz := 53248) (lo := -2147483648) (hi := 2147483647) gl (hk_0 g.1.1) hn rfl (by decide) rfl F1r (fun _ => rfl) (fun _ => rfl)
    have e28 : xg 0 h2.2.1 39 28 = nI tp := by rw [rl_o gl (by omega)]; exact htp
    refine xa_tn 66 [0, 1] [(0, .ref 39), (1, .int (nI (4096 * tp)))] [] h2 [true] 5 q2 rfl ⟨by decide, trivial⟩ (fun _ => ?_)
    refine xa_tn 79 [0, 1] [(0, .ref 39), (1, .int (nI (4096 * tp)))] [.int 93, .ref 39] (xh_ui h2 48 (xg 0 h2.2.1 39 28).toNatClampNeg (Int32.ofInt 1)) [] 10 q2 rfl ⟨(show xe_in (xg 0 h2.2.1 39 28) 13 = true by rw [e28]; exact xin_n (by omega) (by omega)), trivial⟩ (fun _ => ?_)
    rw [e28, etc]
    have hk3 : hk bg_md h (xh_ui h2 48 tp (Int32.ofInt 1)) := hk_ui (s := (1, 13)) (lo := 0) (hi := 9999) hk2 hn rfl rfl (by decide) (by decide) rfl rfl
    have eo : ∀ c k, c ≠ 48 → xg 0 (xh_ui h2 48 tp (Int32.ofInt 1)).2.1 c k = xg 0 h2.2.1 c k := fun c k hc => gx_o hc
    generalize xh_ui h2 48 tp (Int32.ofInt 1) = h3 at hk3 eo ⊢
    have q3 := hk_q hk3 hn
    have hn3 := hk_n hk3 hn
    have e39 : ∀ k, xg 0 h3.2.1 39 k = xg 0 h.2.1 39 k := fun k => by rw [eo 39 k (by decide), rl_o gl (by omega)]
    have e47 : ∀ k, xg 0 h3.2.1 47 k = xg 0 h.2.1 47 k := fun k => by rw [eo 47 k (by decide), rl_o gl (by omega)]
    have e45 : ∀ k, xg 0 h3.2.1 45 k = xg 0 h.2.1 45 k := fun k => by rw [eo 45 k (by decide), rl_o gl (by omega)]
    have e46i : ∀ s, s < 4096 → xg 0 h3.2.1 46 (4096 * tp + s) = cond (decide (xg 0 h.2.1 45 s = 0)) (xg 0 h.2.1 46 (4096 * tp + s)) (xg 0 h.2.1 46 (4096 * tp + s) + w) := fun s hs => by rw [eo 46 _ (by decide)]; exact rl_i gl hs
    have m46 : mo h3 46 (4096 * tp) := by
      intro s t hs ht hst
      have a1 := sm s t hs ht hst
      dsimp only at a1 ⊢
      rw [e46i s hs, e46i t ht, F1b s hs, F1b t ht]
      by_cases z : xg 0 h.2.1 45 s = 0
      · rw [if_pos z]
        split <;> omega
      · have z2 : xg 0 h.2.1 45 t ≠ 0 := nz_mo (f := fun s => xg 0 h.2.1 45 s) m45 (ob s hs).1 hs ht hst z
        rw [if_neg z, if_neg z2]
        omega
    have b46 : ∀ s, s < 4096 → 0 ≤ (xg 0 h3.2.1 46 (4096 * tp + s)).toInt ∧ (xg 0 h3.2.1 46 (4096 * tp + s)).toInt ≤ B + 9999 := by
      intro s hs
      rw [e46i s hs, F1b s hs]
      have := sb s hs
      split <;> omega
    have r3 : rI h3 sz (B + 9999) := by
      obtain ⟨p, z47, tp', a, b, c⟩ := g
      have e : tp' = tp := (nI_eq (by omega) (by omega)).mp (by rw [← a]; exact htp)
      subst e
      refine ⟨pi_tr p hk3 (go_Pc p.2.2.2.1 (fun j _ _ => e39 j)), by rw [e47]; exact z47, tp', by rw [e39]; exact a, b, fun t ht => ?_⟩
      by_cases et : t = tp'
      · subst et
        exact ⟨fun _ => ⟨m46, b46⟩, fun z => absurd (by rw [e47]; exact h47) z⟩
      · refine lvo_B (by omega) (lvo_c (c t ht) (fun s hs => ?_) (fun s hs => ?_) (fun s hs => ?_) (e47 t))
        · rw [eo 41 _ (by decide), rl_o gl (by omega)]
        · rw [eo 42 _ (by decide), rl_o gl (by omega)]
        · rw [eo 46 _ (by decide), rl_o gl (by omega)]
    have fr3 : fr h3 = fr h := fr_c (e39 8)
    refine xp_run q3 rfl rfl (sg_run (d := d + 1) (c := 93) q3) ?_
    rintro v h4 ⟨rfl, rfl⟩
    cases hs : sgb h3 93 with
    | false =>
      refine xa_tn 91 [] [] [.int (Int32.ofInt 1)] (xh_ui h3 39 29 (Int32.ofInt 1)) [false] 7 q3 rfl ⟨rfl, Or.inr rfl, trivial⟩ (fun _ => ?_)
      have hk4' : hk bg_md h3 (xh_ui h3 39 29 (Int32.ofInt 1)) := hk_ui (s := (0, 10)) (lo := 0) (hi := 1) (hk_0 r3.1.1) hn3 rfl rfl (by decide) (by decide) rfl rfl
      refine xp_ret rfl rfl rfl ⟨hk_t (hk_t (hk_0 g.1.1) hk3 (by decide)) hk4' (by decide), Or.inr ⟨rfl, Or.inr ⟨?_, rI_ui r3 hk4' (by omega) (by decide), Or.inr ⟨?_, gx_s⟩⟩⟩⟩
      · rw [gx_k (by decide), e39]
        exact h30
      · rw [fr_c (h := h3) (gx_k (by decide)), fr3]
    | true =>
      have k4 := kd_e (k := 4) (by decide) (sgb_4 hs)
      refine xa_tn 94 [0, 1, 2] [(0, .ref 39), (1, .int (nI (4096 * tp))), (2, .int (Int32.ofInt 0))] [] h3 [true] 5 q3 rfl ⟨rfl, trivial⟩ (fun _ => ?_)
      have f28 : xg 0 h3.2.1 39 28 = nI tp := by rw [e39]; exact htp
      generalize hnd : xg 0 h3.2.1 49 tp = nd
      refine rl_loop (h0 := h3) (c := 45) (B := 0) (F := fun s => bl (decide (nd.toInt ≤ (xg 0 h3.2.1 46 (4096 * tp + s)).toInt))) (N := 4096) (P := fun s h' => xt_P (d + 2) xi_X10_end_ xmi_X10_end_ 94 [(0, .ref 39), (1, .int (nI (4096 * tp))), (2, .int (nI s))] [] h' (ed_Q h sz B)) ?_ ?_
      · intro s h5 hs5 gl5 K
        have q5 := rl_q gl5 q3
        have hge : xe_c .ge (nI s) 4096 = false := nge_f (b := 4096) (by omega) (by omega) hs5
        have hin := xin_n (k := s) (n := 4096) hs5 (by omega)
        have e1 : nI s + Int32.ofInt 1 = nI (s + 1) := nI_1 s
        have ecl : (nI s).toNatClampNeg = s := nI_clamp (by omega)
        have g46 : xg 0 h5.2.1 46 (4096 * tp + s) = xg 0 h3.2.1 46 (4096 * tp + s) := rl_o gl5 (by omega)
        have g28 : xg 0 h5.2.1 39 28 = nI tp := by rw [rl_o gl5 (by omega)]; exact f28
        have g49 : xg 0 h5.2.1 49 tp = nd := by rw [rl_o gl5 (by omega)]; exact hnd
        have hin2 : xe_in ((nI (4096 * tp)) + (nI s)) 53248 = true := by rw [nIa]; exact xin_n (by omega) (by omega)
        have hin3 : xe_in (xg 0 h5.2.1 39 28) 13 = true := by rw [g28]; exact xin_n (by omega) (by omega)
        have ecl2 : (nI (4096 * tp + s)).toNatClampNeg = 4096 * tp + s := nI_clamp (by omega)
        rw [Nat.zero_add] at K
        by_cases hc : nd.toInt ≤ (xg 0 h3.2.1 46 (4096 * tp + s)).toInt
        · rw [decide_eq_true hc] at K
          refine xa_tn 94 [0, 1, 2] [(0, .ref 39), (1, .int (nI (4096 * tp))), (2, .int ((nI s) + Int32.ofInt 1))] [] (xh_ui h5 45 (nI s).toNatClampNeg (vp_nar .boolean (Int32.ofInt 1))) [false, false] 25 q5 rfl ⟨hge, hin2, hin3, xlt_f (show (xg 0 h5.2.1 49 (xg 0 h5.2.1 39 28).toNatClampNeg).toInt ≤ (xg 0 h5.2.1 46 ((nI (4096 * tp)) + (nI s)).toNatClampNeg).toInt by rw [nIa, ecl2, g28, etc, g49, g46]; exact hc), hin, trivial⟩ (fun _ => ?_)
          rw [ecl, e1]
          exact K
        · rw [decide_eq_false hc] at K
          refine xa_tn 94 [0, 1, 2] [(0, .ref 39), (1, .int (nI (4096 * tp))), (2, .int ((nI s) + Int32.ofInt 1))] [] (xh_ui h5 45 (nI s).toNatClampNeg (vp_nar .boolean (Int32.ofInt 0))) [false, true] 24 q5 rfl ⟨hge, hin2, hin3, xlt_t (show (xg 0 h5.2.1 46 ((nI (4096 * tp)) + (nI s)).toNatClampNeg).toInt < (xg 0 h5.2.1 49 (xg 0 h5.2.1 39 28).toNatClampNeg).toInt by rw [nIa, ecl2, g28, etc, g49, g46]; omega), hin, trivial⟩ (fun _ => ?_)
          rw [ecl, e1]
          exact K
      · intro h5 gl5
        have q5 := rl_q gl5 q3
        have hk5' : hk bg_md h3 h5 := rl_hk (kd := 3) (sz := 4096) (lo := 0) (hi := 1) gl5 (hk_0 r3.1.1) hn3 rfl (by decide) rfl (fun _ _ => bl_b) (fun _ => rfl) (fun _ => rfl)
        have hn5 := hk_n hk5' hn3
        have r5 : rI h5 sz (B + 9999) := rI_tr r3 hk5' (go_Pc r3.1.2.2.2.1 (fun j _ _ => rl_o gl5 (by omega))) (rl_o gl5 (by omega)) (fun _ => rl_o gl5 (by omega)) (fun _ => rl_o gl5 (by omega)) (fun _ => rl_o gl5 (by omega)) (fun _ => rl_o gl5 (by omega))
        obtain ⟨t', rfl⟩ : ∃ t', tp = t' + 1 := ⟨tp - 1, by omega⟩
        have g28 : xg 0 h5.2.1 39 28 = nI (t' + 1) := by rw [rl_o gl5 (by omega)]; exact f28
        refine xa_tn 138 [0] [(0, .ref 39)] [] h5 [true] 5 q5 rfl ⟨by decide, trivial⟩ (fun _ => ?_)
        refine xa_tn 149 [] [] [.ref 39] (xh_ui h5 39 28 ((xg 0 h5.2.1 39 28) - (Int32.ofInt 1))) [] 9 q5 rfl trivial (fun _ => ?_)
        rw [g28, nI_sub1]
        have ti := nI_toInt (n := t') (by omega)
        have hk6' : hk bg_md h5 (xh_ui h5 39 28 (nI t')) := hk_ui (s := (0, 10)) (lo := 0) (hi := 12) (hk_0 r5.1.1) hn5 rfl rfl (by omega) (by omega) rfl rfl
        have r6 := rI_dn r5 g28 hk6' (by omega)
        have eo6 : ∀ c k, ¬ (c = 39 ∧ k = 28) → xg 0 (xh_ui h5 39 28 (nI t')).2.1 c k = xg 0 h5.2.1 c k := fun c k e => gx_i e
        generalize xh_ui h5 39 28 (nI t') = h6 at hk6' r6 eo6 ⊢
        refine xp_run (hk_q hk6' hn5) rfl rfl (pg (d := d) (hk_n hk6' hn5) r6.1) ?_
        rintro v h7 ⟨rfl, kg7, p7, f7⟩
        have r7 : rI h7 sz (B + 9999) := rI_go r6 kg7 p7
        have hk7 : hk bg_md h h7 := hk_t (hk_t (hk_t hk3 hk5' (fun _ z => z)) hk6' (fun _ z => z)) kg7 (by decide)
        refine xa_tn 153 [] [] [.int (Int32.ofInt 1)] h7 [] 3 (hk_q hk7 hn) rfl trivial (fun _ => ?_)
        have kd6 : kd h6 = 4 := by
          unfold kd at k4 ⊢
          rw [eo6 39 9 (by omega), rl_o gl5 (by omega)]
          exact k4
        have fr6 : fr h6 = fr h := by
          rw [fr_c (h := h5) (h' := h6) (eo6 39 8 (by omega)), fr_c (h := h3) (h' := h5) (rl_o gl5 (by omega)), fr3]
        have f8 := f7 (by omega)
        refine xp_ret rfl rfl rfl ⟨hk_t (hk_0 g.1.1) hk7 (by decide), Or.inr ⟨rfl, Or.inr ⟨?_, r7, Or.inl ⟨by omega, Or.inr ⟨?_, ?_⟩⟩⟩⟩⟩
        · rw [hk_g (c := 39) (k := 30) hk7 rfl rfl]
          exact h30
        · rw [hk_g (c := 39) (k := 29) kg7 rfl rfl, eo6 39 29 (by omega), rl_o gl5 (by omega), e39]
          exact h29
        · have hm := bl_mo (p := fun s => decide (nd.toInt ≤ (xg 0 h3.2.1 46 (4096 * (t' + 1) + s)).toInt)) (fun s t hs ht hst z => by
            have z1 := of_decide_eq_true z
            have := m46 s t hs ht hst
            dsimp only at this
            exact decide_eq_true (by omega))
          intro s t hs ht hst
          have h1 := hm s t hs ht hst
          dsimp only at h1 ⊢
          have e5 : ∀ s, s < 4096 → xg 0 h7.2.1 45 (0 + s) = bl (decide (nd.toInt ≤ (xg 0 h3.2.1 46 (4096 * (t' + 1) + s)).toInt)) := fun s hs => by rw [hk_g (c := 45) (k := 0 + s) kg7 rfl rfl, eo6 45 _ (by omega)]; exact rl_i gl5 hs
          rw [e5 s hs, e5 t ht]
          exact h1
end XED
