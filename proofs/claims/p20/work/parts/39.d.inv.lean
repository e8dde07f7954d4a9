section XPI
abbrev bg_md : List (Nat × Nat) := [(39, 7), (39, 8), (39, 9), (39, 10), (39, 11), (39, 12), (39, 13), (39, 14), (39, 27), (39, 28), (39, 29), (41, 0), (42, 0), (45, 0), (46, 0), (47, 0), (48, 0), (49, 0)]
/-- a row of sets that is monotone -/
def mo (h : xh_H) (c B : Nat) : Prop := a_mono (fun s => (xg 0 h.2.1 c (B + s)).toInt) 4096
/-- within a text: where it is read, which names were told -/
def pi (h : xh_H) (sz : Nat) : Prop := a_inv a_tb h ∧ sz ≤ 640 ∧ xg 0 h.2.1 39 6 = nI sz ∧ go_P h sz 0 ∧ ∃ nn : Nat, xg 0 h.2.1 39 26 = nI nn ∧ nn ≤ 16 ∧ ∀ k, k < nn → mo h 43 (4096 * k)
/-- a level of a rule: a list's sums, or what was joined so far -/
def lvo (h : xh_H) (t : Nat) (B : Int) : Prop := (xg 0 h.2.1 47 t = 2 → mo h 46 (4096 * t) ∧ ∀ s, s < 4096 → 0 ≤ (xg 0 h.2.1 46 (4096 * t + s)).toInt ∧ (xg 0 h.2.1 46 (4096 * t + s)).toInt ≤ B) ∧ (xg 0 h.2.1 47 t ≠ 2 → mo h 41 (4096 * t) ∧ mo h 42 (4096 * t))
def rI (h : xh_H) (sz : Nat) (B : Int) : Prop := pi h sz ∧ xg 0 h.2.1 47 0 = 0 ∧ ∃ tp : Nat, xg 0 h.2.1 39 28 = nI tp ∧ tp ≤ 12 ∧ ∀ t, t ≤ tp → lvo h t B
def fr (h : xh_H) : Nat := (xg 0 h.2.1 39 8).toInt.toNat
def kd (h : xh_H) : Nat := (xg 0 h.2.1 39 9).toInt.toNat
theorem go_P0 {h : xh_H} {sz t : Nat} (g : go_P h sz t) : go_P h sz 0 := by
  obtain ⟨t', f, k, g1, g2, g3, g4, g5, g6, g7, g8, g9, g10⟩ := g
  exact ⟨t', f, k, g1, g2, g3, g4, Nat.zero_le _, g6, g7, Or.inl (Nat.zero_le _), g9, g10⟩
/-- where the token begins and what it is, again -/
theorem go_Pc {h h' : xh_H} {sz : Nat} (g : go_P h sz 0) (e : ∀ k, 7 ≤ k → k ≤ 10 → xg 0 h'.2.1 39 k = xg 0 h.2.1 39 k) : go_P h' sz 0 := by
  obtain ⟨t', f, k, g1, g2, g3, g4, g5, g6, g7, g8, g9, g10⟩ := g
  refine ⟨t', f, k, by rw [e 7 (by decide) (by decide)]; exact g1, by rw [e 8 (by decide) (by decide)]; exact g2, by rw [e 9 (by decide) (by decide)]; exact g3, g4, g5, g6, g7, g8, g9, fun z => ?_⟩
  rw [e 10 (by decide) (by decide)]
  exact g10 z
theorem mo_c {h h' : xh_H} {c B : Nat} (g : mo h c B) (e : ∀ s, s < 4096 → xg 0 h'.2.1 c (B + s) = xg 0 h.2.1 c (B + s)) : mo h' c B := by
  intro s t hs ht hst
  have := g s t hs ht hst
  dsimp only at this ⊢
  rw [e s hs, e t ht]
  exact this
theorem pi_tr {h h' : xh_H} {sz : Nat} (g : pi h sz) (hk0 : hk bg_md h h') (gp : go_P h' sz 0) : pi h' sz := by
  obtain ⟨g1, g2, g3, g4, nn, g5, g6, g7⟩ := g
  refine ⟨hk0.1, g2, by rw [hk_g (c := 39) (k := 6) hk0 rfl rfl]; exact g3, gp, nn, by rw [hk_g (c := 39) (k := 26) hk0 rfl rfl]; exact g5, g6, fun k hk' => ?_⟩
  exact mo_c (g7 k hk') (fun s _ => hk_g hk0 rfl rfl)
theorem lvo_c {h h' : xh_H} {t : Nat} {B : Int} (g : lvo h t B) (e41 : ∀ s, s < 4096 → xg 0 h'.2.1 41 (4096 * t + s) = xg 0 h.2.1 41 (4096 * t + s)) (e42 : ∀ s, s < 4096 → xg 0 h'.2.1 42 (4096 * t + s) = xg 0 h.2.1 42 (4096 * t + s)) (e46 : ∀ s, s < 4096 → xg 0 h'.2.1 46 (4096 * t + s) = xg 0 h.2.1 46 (4096 * t + s)) (e47 : xg 0 h'.2.1 47 t = xg 0 h.2.1 47 t) : lvo h' t B := by
  obtain ⟨g1, g2⟩ := g
  refine ⟨fun z => ?_, fun z => ?_⟩
  · rw [e47] at z
    obtain ⟨a, b⟩ := g1 z
    exact ⟨mo_c a e46, fun s hs => by rw [e46 s hs]; exact b s hs⟩
  · rw [e47] at z
    obtain ⟨a, b⟩ := g2 z
    exact ⟨mo_c a e41, mo_c b e42⟩
theorem kd_fr {h : xh_H} {sz : Nat} (g : go_P h sz 0) : fr h ≤ 640 ∧ kd h ≤ 4 := by
  obtain ⟨t', f, k, g1, g2, g3, g4, g5, g6, g7, g8, g9, g10⟩ := g
  unfold fr kd
  rw [g2, g3, nI_toInt (by omega), nI_toInt (by omega)]
  omega
set_option maxRecDepth 100000 in
/-- the next token -/
theorem pg {d sz : Nat} {h : xh_H} (hn : 72 ≤ h.1.length) (g : pi h sz) : xt_P (d + 1) xi_X10_go xmi_X10_go 0 [(0, .ref 39)] [] h (fun v h' => v = none ∧ hk go_md h h' ∧ pi h' sz ∧ (2 ≤ kd h → fr h < fr h')) := by
  have g0' := g
  obtain ⟨g1, g2, g3, ⟨t, f, k, a1, a2, a3, a4, a5, a6, a7, a8, a9, a10⟩, g5⟩ := g
  refine xp_mono (g0 (d := d) (t0 := t) hn g2 g3 (sz - t) t h (by omega) (Nat.le_refl _) (hk_0 g1) a1) (fun v h' q => ?_)
  obtain ⟨rfl, q1, q2⟩ := q
  have q3 : hk bg_md h h' := hk_t (hk_0 g1) q1 (by decide)
  refine ⟨rfl, q1, pi_tr g0' q3 (go_P0 q2), fun z => ?_⟩
  obtain ⟨t', f', k', b1, b2, b3, b4, b5, b6, b7, b8, b9, b10⟩ := q2
  unfold kd at z
  unfold fr
  rw [a3, nI_toInt (by omega)] at z
  rw [a2, b2, nI_toInt (by omega), nI_toInt (by omega)]
  have := a9 (by omega)
  omega
/-- go leaves the levels as they are -/
theorem rI_go {h h' : xh_H} {sz : Nat} {B : Int} (g : rI h sz B) (hk0 : hk go_md h h') (p : pi h' sz) : rI h' sz B := by
  obtain ⟨g1, g2, tp, g3, g4, g5⟩ := g
  refine ⟨p, by rw [hk_g (c := 47) (k := 0) hk0 rfl rfl]; exact g2, tp, by rw [hk_g (c := 39) (k := 28) hk0 rfl rfl]; exact g3, g4, fun t ht => ?_⟩
  exact lvo_c (g5 t ht) (fun _ _ => hk_g hk0 rfl rfl) (fun _ _ => hk_g hk0 rfl rfl) (fun _ _ => hk_g hk0 rfl rfl) (hk_g hk0 rfl rfl)
theorem mo_k {h : xh_H} {c B : Nat} {x : Int32} (e : ∀ s, s < 4096 → xg 0 h.2.1 c (B + s) = x) : mo h c B := by
  intro s t hs ht _
  dsimp only
  rw [e s hs, e t ht]
  exact Int.le_refl _
end XPI
