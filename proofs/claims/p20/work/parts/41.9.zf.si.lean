section XSI
/-- what leaves the statutes -/
def Fs (n : Nat) (h h' : xh_H) : Prop := h.1.length ≤ h'.1.length ∧ (∀ c k, h.1[c]? = some (0, 7) → xg 0 h'.2.1 c k = xg 0 h.2.1 c k) ∧ (∀ c k, h.1[c]? = some (4, 64) → xg 0 h'.2.2.1 c k = xg 0 h.2.2.1 c k) ∧ (∀ k, k < n → xg none h'.2.2.2 13 k = xg none h.2.2.2 13 k) ∧ (∀ c k, h.1[c]? = some (0, 7) → xg none h'.2.2.2 c k = xg none h.2.2.2 c k) ∧ xg none h'.2.2.2 0 2 = xg none h.2.2.2 0 2
theorem sh7_a : ∀ c, c < 72 → a_sh[c]? = some (0, 7) → c = 11 := by decide +kernel
theorem sh64_a : ∀ c, c < 72 → a_sh[c]? = some (4, 64) → c = 12 := by decide +kernel
theorem a_sh_72 : a_sh.length = 72 := by decide +kernel
theorem sh_of {h : xh_H} {c : Nat} {s : Nat × Nat} (hq : a_rq a_tb h) (hc : c < 72) (e : h.1[c]? = some s) : a_sh[c]? = some s := by
  obtain ⟨s2, e2⟩ : ∃ s2, a_sh[c]? = some s2 := ⟨_, List.getElem?_eq_getElem (by rw [a_sh_72]; exact hc)⟩
  have := hq.2.1 c s2 e2
  rw [e] at this
  rw [e2, this]
theorem sh7 {h : xh_H} {c : Nat} (hq : a_rq a_tb h) (e : h.1[c]? = some (0, 7)) : c = 11 ∨ 72 ≤ c := by
  by_cases hc : c < 72
  · exact Or.inl (sh7_a c hc (sh_of hq hc e))
  · exact Or.inr (by omega)
theorem sh64c {h : xh_H} {c : Nat} (hq : a_rq a_tb h) (e : h.1[c]? = some (4, 64)) : c = 12 ∨ 72 ≤ c := by
  by_cases hc : c < 72
  · exact Or.inl (sh64_a c hc (sh_of hq hc e))
  · exact Or.inr (by omega)
theorem Fs_0 {n : Nat} {h : xh_H} : Fs n h h := ⟨Nat.le_refl _, fun _ _ _ => rfl, fun _ _ _ => rfl, fun _ _ => rfl, fun _ _ _ => rfl, rfl⟩
theorem Fs_z {n : Nat} {h h' : xh_H} (hq : a_rq a_tb h) (z : Fz h h') : Fs n h h' := ⟨by rw [z.1]; exact Nat.le_refl _, z.2.1, fun c k e => z.2.2.1 c k (fun ci y => by rw [e] at y; cases y), fun k _ => z.2.2.2 13 k (by rw [hq.2.1 13 _ rfl]; decide) (by rw [hq.2.1 13 _ rfl]; decide), fun c k e => z.2.2.2 c k (by rw [e]; decide) (by rw [e]; decide), z.2.2.2 0 2 (by rw [hq.2.1 0 _ rfl]; decide) (by rw [hq.2.1 0 _ rfl]; decide)⟩
theorem Fs_f {n : Nat} {S L : Nat → Nat → Bool} {h h' : xh_H} (g : fx S L h h') (e1 : ∀ c k, h.1[c]? = some (0, 7) → S c k = false) (e2 : ∀ c k, h.1[c]? = some (4, 64) → L c k = false) : Fs n h h' := ⟨by rw [g.1]; exact Nat.le_refl _, fun c k e => g.2.2.1 c k (e1 c k e), fun c k e => g.2.2.2 c k (e2 c k e), fun _ _ => by rw [g.2.1], fun _ _ _ => by rw [g.2.1], by rw [g.2.1]⟩
theorem Fs_c {sc : Nat} {h h' : xh_H} (hq : a_rq a_tb h) (c : cst h h' sc) : Fs sc h h' := by
  have hl : ∀ {c : Nat} {s : Nat × Nat}, h.1[c]? = some s → c < h.1.length := fun {c s} e => (List.getElem?_eq_some_iff.mp e).1
  have h72 := hq.1
  exact ⟨c.1, fun x k e => c.2.2.2 x k (sh7 hq e) (hl e), fun x k e => c.2.2.1 x k (hl e), fun k hk' => c.2.1 13 k (by omega) (fun _ => hk'), fun x k e => c.2.1 x k (hl e) (fun z => by rcases sh7 hq e with y | y <;> omega), c.2.1 0 2 (by omega) (fun z => by omega)⟩
theorem hv_e {h h' : xh_H} {r s : Nat} (e : ∀ k, xg 0 h'.2.2.1 r k = xg 0 h.2.2.1 r k) : hv h' r s = hv h r s := by
  unfold hv
  rw [e]
theorem st1_s {n k mem : Nat} {h h' : xh_H} (i : a_inv a_tb h) (F : Fs n h h') (hk : k < n) (e51 : xg 0 h'.2.1 51 k = xg 0 h.2.1 51 k) (e52 : xg 0 h'.2.1 52 k = xg 0 h.2.1 52 k) (e44 : ∀ s, s < 4096 → xg 0 h'.2.1 44 (4096 * k + s) = xg 0 h.2.1 44 (4096 * k + s)) (m12 : mem ≤ 12) (S : st1 h mem k) : st1 h' mem k := by
  have p12 : 2 ^ mem ≤ 4096 := show 2 ^ mem ≤ 2 ^ 12 from Nat.pow_le_pow_right (by decide) m12
  obtain ⟨q, q72, qe, ql, q1, q2, q3, q4, q5, q6⟩ := S
  obtain ⟨hs, hr⟩ := st_sh i q72 qe ql
  exact ⟨q, q72, qe, Nat.lt_of_lt_of_le ql F.1, (F.2.2.2.1 k hk).trans q1, (F.2.2.2.2.1 q 1 hs).trans q2, by rw [F.2.1 q 0 hs, e51]; exact q3, by rw [e51]; exact q4, by rw [e52, e51]; exact q5, fun s hs' => by rw [hv_e (fun k => F.2.2.1 (q + 1) k hr), e44 s (by omega)]; exact q6 s hs'⟩
theorem SI_s {h h' : xh_H} (i : a_inv a_tb h) (hq : a_rq a_tb h) (F : Fs 8 h h') (e8 : xg 0 h'.2.1 0 8 = xg 0 h.2.1 0 8) (e9 : xg 0 h'.2.1 0 9 = xg 0 h.2.1 0 9) (e44 : ∀ k, xg 0 h'.2.1 44 k = xg 0 h.2.1 44 k) (e51 : ∀ k, xg 0 h'.2.1 51 k = xg 0 h.2.1 51 k) (e52 : ∀ k, xg 0 h'.2.1 52 k = xg 0 h.2.1 52 k) (S : SI h) : SI h' := by
  obtain ⟨⟨u1, u2, u3⟩, S⟩ := S
  have s11 := hq.2.1 11 _ rfl
  have s12 := hq.2.1 12 _ rfl
  refine ⟨⟨(F.2.1 11 0 s11).trans u1, F.2.2.2.2.2.trans u2, (F.2.2.2.2.1 11 1 s11).trans u3⟩, fun mem sc x1 m12 x2 sc8 => ?_⟩
  rw [e9] at x1
  rw [e8] at x2
  obtain ⟨a, b⟩ := S mem sc x1 m12 x2 sc8
  exact ⟨fun k hk' => st1_s i F (by omega) (e51 k) (e52 k) (fun s _ => e44 _) m12 (a k hk'), fun s s4 => (hv_e (fun k => F.2.2.1 12 k s12)).trans (b s s4)⟩
/-- a frame of ints that leaves the statutes -/
def siM (md : List (Nat × Nat)) : Bool := !a_mb md 44 0 && (!a_mb md 51 0 && (!a_mb md 52 0 && (!a_mb md 0 8 && !a_mb md 0 9)))
theorem SI_t {md : List (Nat × Nat)} {h h' : xh_H} (i : a_inv a_tb h) (hq : a_rq a_tb h) (F : Fs 8 h h') (f : a_fr md h h') (m : siM md = true) (S : SI h) : SI h' := by
  unfold siM at m
  simp only [Bool.and_eq_true, Bool.not_eq_true'] at m
  obtain ⟨m1, m2, m3, m4, m5⟩ := m
  exact SI_s i hq F (fr_g f rfl m4) (fr_g f rfl m5) (fun k => fr_g (c := 44) (k := k) f rfl m1) (fun k => fr_g (c := 51) (k := k) f rfl m2) (fun k => fr_g (c := 52) (k := k) f rfl m3) S
theorem SI_2 {md1 md2 : List (Nat × Nat)} {h h1 h2 : xh_H} (i : a_inv a_tb h) (l : 72 ≤ h.1.length) (i1 : a_inv a_tb h1) (l1 : 72 ≤ h1.1.length) (z1 : Fz h h1) (z2 : Fz h1 h2) (f1 : a_fr md1 h h1) (f2 : a_fr md2 h1 h2) (m1 : siM md1 = true) (m2 : siM md2 = true) (S : SI h) : SI h2 := SI_t i1 (a_rq_of i1.1 l1) (Fs_z (a_rq_of i1.1 l1) z2) f2 m2 (SI_t i (a_rq_of i.1 l) (Fs_z (a_rq_of i.1 l) z1) f1 m1 S)
/-- .. members: all are needed anew -/
theorem SI_m {h h1 h2 : xh_H} {x s w r : Int32} {md2 : List (Nat × Nat)} (i : a_inv a_tb h) (l : 72 ≤ h.1.length) (i1 : a_inv a_tb h1) (l1 : 72 ≤ h1.1.length) (S : SI h) (q1 : (mbB s w r x = false → h1 = h) ∧ (mbB s w r x = true → fx m09 (Lr 12) h h1 ∧ ∃ m, x = nI m ∧ m ≤ 12 ∧ ∀ t, t < 4096 → hv h1 12 t = decide (t = 2 ^ m - 1))) (d1 : xg 0 h1.2.1 0 9 = cond (mbB s w r x) x (xg 0 h.2.1 0 9)) (e8 : xg 0 h.2.1 0 8 = s) (z2 : Fz h1 h2) (f2 : a_fr md2 h1 h2) (m2 : siM md2 = true) : SI h2 := by
  refine SI_t i1 (a_rq_of i1.1 l1) (Fs_z (a_rq_of i1.1 l1) z2) f2 m2 ?_
  cases hB : mbB s w r x with
  | false => rw [q1.1 hB]; exact S
  | true =>
    obtain ⟨g, m, em, m12, un⟩ := q1.2 hB
    rw [hB] at d1
    have d1 : xg 0 h1.2.1 0 9 = x := d1
    have b8 : s = nI 0 := (by
      unfold mbB at hB
      simp only [Bool.and_eq_true, Bool.not_eq_true'] at hB
      have b0 : ¬ (0 : Int) < s.toInt := fun y => by
        have : xe_c .gt s 0 = true := xgt_t y
        simp only [this] at hB
        exact absurd hB.2 (by simp)
      have b1 := a_flx (c := 0) (k := 8) (lo := 0) (hi := 8) i.1 l rfl rfl (by decide)
      rw [e8] at b1
      exact Int32.toInt_inj.mp (by rw [nI_toInt (by decide)]; omega))
    obtain ⟨⟨u1, u2, u3⟩, -⟩ := S
    refine ⟨⟨(fx_i g rfl).trans u1, by rw [g.2.1]; exact u2, by rw [g.2.1]; exact u3⟩, fun mem sc x1 m12' x2 sc8 => ⟨fun k hk' => ?_, fun t t4 => ?_⟩⟩
    · rw [fx_i g rfl, e8, b8] at x2
      have y := congrArg Int32.toInt x2
      rw [nI_toInt (by decide), nI_toInt (by omega)] at y
      omega
    · rw [d1, em] at x1
      have y := congrArg Int32.toInt x1
      rw [nI_toInt (by omega), nI_toInt (by omega)] at y
      have : m = mem := by omega
      rw [un t t4, this]
theorem bq72 {c : Nat} (h : c = 11 ∨ 72 ≤ c) : ∀ j, j < 72 → j ≠ 11 → Nat.beq c j = false := fun j h1 h2 => by
  rw [Bool.eq_false_iff]
  intro y
  have := Nat.eq_of_beq_eq_true y
  omega
theorem rW3_72 {sc c k : Nat} (h : c = 11 ∨ 72 ≤ c) : rW3 sc c k = false := by
  have e := bq72 h
  unfold rW3 rW2 rU rT rS sA0
  simp only [e 39 (by decide) (by decide), e 41 (by decide) (by decide), e 42 (by decide) (by decide), e 43 (by decide) (by decide), e 44 (by decide) (by decide), e 45 (by decide) (by decide), e 46 (by decide) (by decide), e 47 (by decide) (by decide), e 48 (by decide) (by decide), e 49 (by decide) (by decide), e 51 (by decide) (by decide), e 52 (by decide) (by decide), Bool.false_and, Bool.false_or]
theorem rV_12 {c k : Nat} (h : c = 12 ∨ 72 ≤ c) : rV c k = false := by
  unfold rV gL
  rw [show Nat.beq c 39 = false from by rw [Bool.eq_false_iff]; intro y; have := Nat.eq_of_beq_eq_true y; omega, show Nat.beq c 50 = false from by rw [Bool.eq_false_iff]; intro y; have := Nat.eq_of_beq_eq_true y; omega]
  rfl
theorem rW3_44 {sc k : Nat} (h : k < 4096 * sc) : rW3 sc 44 k = false := by
  show ((false || (false || (Nat.ble (4096 * sc) k || false))) || false) = false
  rw [ble_n h]
  rfl
theorem rW3_51 {sc k : Nat} (h : k ≠ sc) : rW3 sc 51 k = false := by
  show ((false || (false || (false || Nat.beq k sc))) || false) = false
  rw [show Nat.beq k sc = false from by rw [Bool.eq_false_iff]; intro y; exact h (Nat.eq_of_beq_eq_true y)]
  rfl
theorem rW3_52 {sc k : Nat} (h : k ≠ sc) : rW3 sc 52 k = false := by
  show ((false || (false || (false || Nat.beq k sc))) || false) = false
  rw [show Nat.beq k sc = false from by rw [Bool.eq_false_iff]; intro y; exact h (Nat.eq_of_beq_eq_true y)]
  rfl
/-- .. a statute more -/
theorem SI_n {h h1 h2 : xh_H} {T : Nat → Nat} {n mem sc td : Nat} {fd : Int32} {md : List (Nat × Nat)} (i : a_inv a_tb h) (l : 72 ≤ h.1.length) (hp : h.1.length % 2 = 0) (i1 : a_inv a_tb h1) (l1 : 72 ≤ h1.1.length) (S : SI h) (e9 : xg 0 h.2.1 0 9 = nI mem) (m12 : mem ≤ 12) (e8 : xg 0 h.2.1 0 8 = nI sc) (sc8 : sc ≤ 8) (td9 : td ≤ 999) (c1 : cst h h1 sc) (n1 : cnw h h1 T n mem sc fd) (f1 : a_fr md h h1) (g51 : ∀ k, xg 0 h1.2.1 51 k = xg 0 h.2.1 51 k) (g52 : ∀ k, xg 0 h1.2.1 52 k = xg 0 h.2.1 52 k) (g44 : ∀ k, xg 0 h1.2.1 44 k = xg 0 h.2.1 44 k) (d9 : xg 0 h2.2.1 0 9 = nI mem) (d8 : xg 0 h2.2.1 0 8 = xg 0 h1.2.1 0 8) (b8 : xg 0 h1.2.1 0 8 = nI sc ∨ xg 0 h1.2.1 0 8 = nI (sc + 1)) (w : fx (rW3 sc) rV h1 h2) (nw : xg 0 h1.2.1 0 8 = nI (sc + 1) → sc < 8 ∧ ((td : Int) ≤ fd.toInt ∧ fd.toInt ≤ 999) ∧ xg 0 h2.2.1 51 sc = fd ∧ xg 0 h2.2.1 52 sc = nI td ∧ ∀ s y, s < 4096 → (∃ j, Tv T n mem s j 0 0 0 (nmW T (fun _ => (0, 0))) (fun _ => false) y) → xg 0 h2.2.1 44 (4096 * sc + s) = bl y) : SI h2 := by
  have hq := a_rq_of i.1 l
  have hq1 := a_rq_of i1.1 l1
  have F1 : Fs sc h h1 := Fs_c hq c1
  have F2 : ∀ n, Fs n h1 h2 := fun n => Fs_f w (fun c k e => rW3_72 (sh7 hq1 e)) (fun c k e => rV_12 (sh64c hq1 e))
  have s11 := hq.2.1 11 _ rfl
  have s12 := hq.2.1 12 _ rfl
  have t11 := hq1.2.1 11 _ rfl
  have t12 := hq1.2.1 12 _ rfl
  obtain ⟨⟨u1, u2, u3⟩, S⟩ := S
  obtain ⟨a, b⟩ := S mem sc e9 m12 e8 sc8
  have p12 : 2 ^ mem ≤ 4096 := show 2 ^ mem ≤ 2 ^ 12 from Nat.pow_le_pow_right (by decide) m12
  have old : ∀ k, k < sc → st1 h2 mem k := fun k hk' => st1_s i1 (F2 sc) hk' (fx_i w (rW3_51 (by omega))) (fx_i w (rW3_52 (by omega))) (fun s s4 => fx_i w (rW3_44 (by omega))) m12 (st1_s i F1 hk' (g51 k) (g52 k) (fun s _ => g44 _) m12 (a k hk'))
  refine ⟨⟨((F2 0).2.1 11 0 t11).trans ((F1.2.1 11 0 s11).trans u1), (F2 0).2.2.2.2.2.trans (F1.2.2.2.2.2.trans u2), ((F2 0).2.2.2.2.1 11 1 t11).trans ((F1.2.2.2.2.1 11 1 s11).trans u3)⟩, fun mem' sc' x1 m12' x2 sc8' => ?_⟩
  have em : mem = mem' := by
    rw [d9] at x1
    have y := congrArg Int32.toInt x1
    rw [nI_toInt (by omega), nI_toInt (by omega)] at y
    omega
  subst em
  refine ⟨fun k hk' => ?_, fun t t4 => (hv_e (fun k => (F2 0).2.2.1 12 k t12)).trans ((hv_e (fun k => F1.2.2.1 12 k s12)).trans (b t t4))⟩
  by_cases ks : k < sc
  · exact old k ks
  · rw [d8] at x2
    rcases b8 with y | y
    · rw [y] at x2
      have y := congrArg Int32.toInt x2
      rw [nI_toInt (by omega), nI_toInt (by omega)] at y
      omega
    · obtain ⟨v1, v2, v3, v4, v5⟩ := nw y
      obtain ⟨w1, w2, w3, w4, w5⟩ := n1 y
      rw [y] at x2
      have y2 := congrArg Int32.toInt x2
      rw [nI_toInt (by omega), nI_toInt (by omega)] at y2
      have ek : k = sc := by omega
      subst ek
      have sN := st_sh i1 (q := h.1.length) (by omega) hp w1
      refine ⟨h.1.length, l, hp, Nat.lt_of_lt_of_le w1 (F2 0).1, by rw [w.2.1]; exact w2, by rw [w.2.1]; exact w3, by rw [(F2 0).2.1 _ 0 sN.1, v3]; exact w4, by rw [v3]; omega, by rw [v4, v3, nI_toInt (by omega)]; exact v2, fun s hs => ?_⟩
      obtain ⟨z, j, z1, z2⟩ := w5 s (by omega)
      rw [hv_e (fun k => (F2 0).2.2.1 (h.1.length + 1) k sN.2), z1, decide_eq_true hs, Bool.true_and]
      exact (v5 s z (by omega) ⟨j, z2⟩).symm
end XSI
