section XFC
def gb (h : xh_H) (a b : Nat) : Bool := (xg 0 h.2.1 19 a).toInt.toNat.testBit b
def cp_v (o u : Bool) : Int32 := cond o (cond u 0 1) (cond u (-1) 2)
theorem bt_0 {b : Bool} : xe_c .eq (nI b.toNat) 0 = !b := by cases b <;> decide
set_option maxRecDepth 100000 in
set_option maxHeartbeats 4000000 in
/-- Powers.compare -/
theorem cp_run {d a b : Nat} {h : xh_H} (hi : a_inw a_tb h) (hn : 72 ≤ h.1.length) (ha : a ≤ 11) (hb : b ≤ 11) : xt_P d xi_X2_compare xmi_X2_compare 0 [(0, .ref 14), (1, .int (nI a)), (2, .int (nI b))] [] h (fun v h' => h = h' ∧ v = some (.int (cp_v (gb h a b) (gb h b a)))) := by
  have hq := a_rq_of hi hn
  have xa := a_elx (c := 19) (k := a) (lo := 0) (hi := 4095) hi hn rfl rfl (by omega)
  have xb := a_elx (c := 19) (k := b) (lo := 0) (hi := 4095) hi hn rfl rfl (by omega)
  obtain ⟨p, ep, p1, p2⟩ := a_nk (x := xg 0 h.2.1 19 a) (m := 4095) xa.1 xa.2
  obtain ⟨r, er, r1, r2⟩ := a_nk (x := xg 0 h.2.1 19 b) (m := 4095) xb.1 xb.2
  have ga : gb h a b = p.testBit b := by unfold gb; rw [ep, nI_toInt p2]; rfl
  have gbb : gb h b a = r.testBit a := by unfold gb; rw [er, nI_toInt r2]; rfl
  have eac : (nI a).toNatClampNeg = a := nI_clamp (by omega)
  have ebc : (nI b).toNatClampNeg = b := nI_clamp (by omega)
  have ba := nI_b0 (a := p) (k := b) p2 (by omega)
  have bb := nI_b0 (a := r) (k := a) r2 (by omega)
  rw [ga, gbb]
  refine xa_tn 10 [0, 1, 2] [(0, .ref 14), (1, .int (nI a)), (2, .int (nI b))] [.int (((xg 0 h.2.1 19 (nI a).toNatClampNeg) >>> ((nI b) &&& 31)) &&& (Int32.ofInt 1))] h [] 10 hq rfl ⟨xin_n (by omega) (by omega), trivial⟩ (fun _ => ?_)
  rw [eac, ep, ba]
  have hinb := xin_n (k := b) (n := 12) (by omega) (by omega)
  have key : ∀ x : Int32, x = cond (p.testBit b) 1 0 → xt_P d xi_X2_compare xmi_X2_compare 29 [(3, .int x)] [.int (nI (r.testBit a).toNat)] h (fun v h' => h = h' ∧ v = some (.int (cp_v (p.testBit b) (r.testBit a)))) := by
    intro x ex
    cases hr : r.testBit a with
    | false =>
      refine xa_tn 39 [3, 4] [(3, .int x), (4, .int (Int32.ofInt 0))] [] h [true] 5 hq rfl ⟨rfl, trivial⟩ (fun _ => ?_)
      cases hp : p.testBit b with
      | false =>
        rw [hp] at ex
        subst ex
        refine xa_tn 64 [] [] [.int (Int32.ofInt 2)] h [true, true] 12 hq rfl ⟨rfl, rfl, trivial⟩ (fun _ => ?_)
        exact xp_ret rfl rfl rfl ⟨rfl, rfl⟩
      | true =>
        rw [hp] at ex
        subst ex
        refine xa_tn 53 [] [] [.int (Int32.ofInt 1)] h [false, true] 12 hq rfl ⟨rfl, rfl, trivial⟩ (fun _ => ?_)
        exact xp_ret rfl rfl rfl ⟨rfl, rfl⟩
    | true =>
      refine xa_tn 39 [3, 4] [(3, .int x), (4, .int (Int32.ofInt 1))] [] h [false] 6 hq rfl ⟨rfl, trivial⟩ (fun _ => ?_)
      cases hp : p.testBit b with
      | false =>
        rw [hp] at ex
        subst ex
        refine xa_tn 64 [] [] [.int (Int32.ofInt (-1))] h [true, false] 12 hq rfl ⟨rfl, rfl, trivial⟩ (fun _ => ?_)
        exact xp_ret rfl rfl rfl ⟨rfl, rfl⟩
      | true =>
        rw [hp] at ex
        subst ex
        refine xa_tn 53 [] [] [.int (Int32.ofInt 0)] h [false, false] 12 hq rfl ⟨rfl, rfl, trivial⟩ (fun _ => ?_)
        exact xp_ret rfl rfl rfl ⟨rfl, rfl⟩
  cases hp : p.testBit b with
  | false =>
    refine xa_tn 29 [3] [(3, .int (Int32.ofInt 0))] [.int (((xg 0 h.2.1 19 (nI b).toNatClampNeg) >>> ((nI a) &&& 31)) &&& (Int32.ofInt 1))] h [true] 13 hq rfl ⟨rfl, hinb, trivial⟩ (fun _ => ?_)
    rw [ebc, er, bb]
    have := key 0 (by rw [hp]; rfl)
    rw [hp] at this
    exact this
  | true =>
    refine xa_tn 29 [3] [(3, .int (Int32.ofInt 1))] [.int (((xg 0 h.2.1 19 (nI b).toNatClampNeg) >>> ((nI a) &&& 31)) &&& (Int32.ofInt 1))] h [false] 14 hq rfl ⟨rfl, hinb, trivial⟩ (fun _ => ?_)
    rw [ebc, er, bb]
    have := key 1 (by rw [hp]; rfl)
    rw [hp] at this
    exact this
/-- one of whom none ahead is the like -/
def fc_f (h : xh_H) (m : Nat) : Prop := ∀ o, o < m → ¬ (a_ge h m o ∧ a_ge h o m)
set_option maxRecDepth 100000 in
set_option maxHeartbeats 4000000 in
theorem if5_loop {d m : Nat} {h : xh_H} (hi : a_inw a_tb h) (hn : 72 ≤ h.1.length) (hm : m ≤ 11) : ∀ (n o : Nat), o + n = m → (∀ o', o' < o → ¬ (a_ge h m o' ∧ a_ge h o' m)) → xt_P (d + 1) xi_X5_isFirst xmi_X5_isFirst 2 [(0, .ref 21), (1, .int (nI m)), (2, .int (nI o))] [] h (fun v h' => h = h' ∧ ∃ p : Bool, v = some (.int (cond p 1 0)) ∧ (p = true ↔ fc_f h m)) := by
  have hq := a_rq_of hi hn
  intro n
  induction n with
  | zero =>
    intro o ho hall
    have e : o = m := by omega
    subst e
    refine xa_tn 28 [] [] [.int (Int32.ofInt 1)] h [true] 6 hq rfl ⟨nge_t (by omega) (by omega) (Nat.le_refl _), trivial⟩ (fun _ => ?_)
    exact xp_ret rfl rfl rfl ⟨rfl, true, rfl, fun _ => hall, fun _ => rfl⟩
  | succ n ih =>
    intro o ho hall
    have e1 : nI o + Int32.ofInt 1 = nI (o + 1) := nI_1 o
    refine xa_tn 13 [0, 1, 2] [(0, .ref 21), (1, .int (nI m)), (2, .int (nI o))] [.int (nI o), .int (nI m), .ref 14] h [false] 9 hq rfl ⟨nge_f (by omega) (by omega) (by omega), trivial⟩ (fun _ => ?_)
    refine xp_run hq rfl rfl (cp_run (d := d) hi hn hm (by omega)) ?_
    rintro v h1 ⟨rfl, rfl⟩
    cases c1 : gb h m o with
    | true =>
      cases c2 : gb h o m with
      | true =>
        refine xa_tn 20 [] [] [.int (Int32.ofInt 0)] h [false] 4 hq rfl ⟨rfl, trivial⟩ (fun _ => ?_)
        exact xp_ret rfl rfl rfl ⟨rfl, false, rfl, Iff.intro (fun z => Bool.noConfusion z) (fun z => absurd (And.intro c1 c2) (z o (by omega)))⟩
      | false =>
        refine xa_tn 2 [0, 1, 2] [(0, .ref 21), (1, .int (nI m)), (2, .int ((nI o) + Int32.ofInt 1))] [] h [true] 5 hq rfl ⟨rfl, trivial⟩ (fun _ => ?_)
        rw [e1]
        refine ih (o + 1) (by omega) (fun o' ho' z => ?_)
        by_cases e : o' = o
        · subst e
          have : gb h o' m = true := z.2
          rw [c2] at this
          cases this
        · exact hall o' (by omega) z
    | false =>
      cases c2 : gb h o m with
      | true =>
        refine xa_tn 2 [0, 1, 2] [(0, .ref 21), (1, .int (nI m)), (2, .int ((nI o) + Int32.ofInt 1))] [] h [true] 5 hq rfl ⟨rfl, trivial⟩ (fun _ => ?_)
        rw [e1]
        refine ih (o + 1) (by omega) (fun o' ho' z => ?_)
        by_cases e : o' = o
        · subst e
          have : gb h m o' = true := z.1
          rw [c1] at this
          cases this
        · exact hall o' (by omega) z
      | false =>
        refine xa_tn 2 [0, 1, 2] [(0, .ref 21), (1, .int (nI m)), (2, .int ((nI o) + Int32.ofInt 1))] [] h [true] 5 hq rfl ⟨rfl, trivial⟩ (fun _ => ?_)
        rw [e1]
        refine ih (o + 1) (by omega) (fun o' ho' z => ?_)
        by_cases e : o' = o
        · subst e
          have : gb h m o' = true := z.1
          rw [c1] at this
          cases this
        · exact hall o' (by omega) z
set_option maxRecDepth 100000 in
theorem if5_run {d m : Nat} {h : xh_H} (hi : a_inw a_tb h) (hn : 72 ≤ h.1.length) (hm : m ≤ 11) : xt_P (d + 1) xi_X5_isFirst xmi_X5_isFirst 0 [(0, .ref 21), (1, .int (nI m))] [] h (fun v h' => h = h' ∧ ∃ p : Bool, v = some (.int (cond p 1 0)) ∧ (p = true ↔ fc_f h m)) := by
  refine xa_tn 2 [0, 1, 2] [(0, .ref 21), (1, .int (nI m)), (2, .int (Int32.ofInt 0))] [] h [] 4 (a_rq_of hi hn) rfl trivial (fun _ => ?_)
  exact if5_loop hi hn hm m 0 (by omega) (fun o' ho' => absurd ho' (Nat.not_lt_zero o'))
/-- m is not stronger than the first one of class c -/
def so_n (h : xh_H) (m c : Nat) : Prop := ∃ f : Nat, xg 0 h.2.1 24 c = nI f ∧ f ≤ 11 ∧ ¬ (a_ge h m f ∧ ¬ a_ge h f m)
set_option maxRecDepth 100000 in
set_option maxHeartbeats 4000000 in
theorem so_loop {d m k : Nat} {h : xh_H} (hi : a_inw a_tb h) (hn : 72 ≤ h.1.length) (hm : m ≤ 11) (hk12 : k ≤ 12) (hcl : xg 0 h.2.1 21 8 = nI k) : ∀ (n c w : Nat), c + n = k → w ≤ c → ((∃ c', c' < c ∧ so_n h m c') → w < c) → xt_P (d + 1) xi_X5_strengthOf xmi_X5_strengthOf 4 [(0, .ref 21), (1, .int (nI m)), (2, .int (nI w)), (3, .int (nI c))] [] h (fun v h' => h = h' ∧ ∃ w : Nat, v = some (.int (nI w)) ∧ w ≤ k ∧ ((∃ c, c < k ∧ so_n h m c) → w < k)) := by
  have hq := a_rq_of hi hn
  intro n
  induction n with
  | zero =>
    intro c w hc hw hx
    have e : c = k := by omega
    subst e
    refine xa_tn 40 [] [] [.int (nI w)] h [true] 7 hq rfl ⟨(show xe_c .ge (nI c) (xg 0 h.2.1 21 8) = true by rw [hcl]; exact nge_t (by omega) (by omega) (Nat.le_refl _)), trivial⟩ (fun _ => ?_)
    exact xp_ret rfl rfl rfl ⟨rfl, w, rfl, hw, hx⟩
  | succ n ih =>
    intro c w hc hw hx
    have e1 : nI c + Int32.ofInt 1 = nI (c + 1) := nI_1 c
    have e2 : nI w + Int32.ofInt 1 = nI (w + 1) := nI_1 w
    have ecc : (nI c).toNatClampNeg = c := nI_clamp (by omega)
    have g := a_elx (c := 24) (k := c) (lo := 0) (hi := 11) hi hn rfl rfl (by omega)
    obtain ⟨f, ef, f11, f31⟩ := a_nk (x := xg 0 h.2.1 24 c) (m := 11) g.1 g.2
    refine xa_tn 23 [0, 1, 2, 3] [(0, .ref 21), (1, .int (nI m)), (2, .int (nI w)), (3, .int (nI c))] [.int (xg 0 h.2.1 24 (nI c).toNatClampNeg), .int (nI m), .ref 14] h [false] 13 hq rfl ⟨(show xe_c .ge (nI c) (xg 0 h.2.1 21 8) = false by rw [hcl]; exact nge_f (by omega) (by omega) (by omega)), xin_n (by omega) (by omega), trivial⟩ (fun _ => ?_)
    rw [ecc, ef]
    refine xp_run hq rfl rfl (cp_run (d := d) hi hn hm f11) ?_
    rintro v h1 ⟨rfl, rfl⟩
    have stay : xe_c .ne (cp_v (gb h m f) (gb h f m)) (Int32.ofInt 1) = true → xt_P (d + 1) xi_X5_strengthOf xmi_X5_strengthOf 26 [(0, .ref 21), (1, .int (nI m)), (2, .int (nI w)), (3, .int (nI c))] [.int (cp_v (gb h m f) (gb h f m))] h (fun v h' => h = h' ∧ ∃ w : Nat, v = some (.int (nI w)) ∧ w ≤ k ∧ ((∃ c, c < k ∧ so_n h m c) → w < k)) := by
      intro hne
      refine xa_tn 4 [0, 1, 2, 3] [(0, .ref 21), (1, .int (nI m)), (2, .int (nI w)), (3, .int ((nI c) + Int32.ofInt 1))] [] h [true] 6 hq rfl ⟨hne, trivial⟩ (fun _ => ?_)
      rw [e1]
      exact ih (c + 1) w (by omega) (by omega) (fun _ => by omega)
    cases c1 : gb h m f with
    | false =>
      have s := stay (by rw [c1]; cases gb h f m <;> rfl)
      rw [c1] at s
      exact s
    | true =>
      cases c2 : gb h f m with
      | true =>
        have s := stay (by rw [c1, c2]; rfl)
        rw [c1, c2] at s
        exact s
      | false =>
        refine xa_tn 4 [0, 1, 2, 3] [(0, .ref 21), (1, .int (nI m)), (2, .int ((nI w) + Int32.ofInt 1)), (3, .int ((nI c) + Int32.ofInt 1))] [] h [false] 7 hq rfl ⟨rfl, trivial⟩ (fun _ => ?_)
        rw [e1, e2]
        refine ih (c + 1) (w + 1) (by omega) (by omega) ?_
        rintro ⟨c', hc', f', ef', f11', hno⟩
        by_cases e : c' = c
        · subst e
          rw [ef] at ef'
          have e5 : f = f' := (nI_eq (by omega) (by omega)).mp ef'
          subst e5
          refine absurd ⟨c1, fun z => ?_⟩ hno
          have z : gb h f m = true := z
          rw [c2] at z
          cases z
        · have := hx ⟨c', by omega, f', ef', f11', hno⟩
          omega
set_option maxRecDepth 100000 in
theorem so_run {d m k : Nat} {h : xh_H} (hi : a_inw a_tb h) (hn : 72 ≤ h.1.length) (hm : m ≤ 11) (hk12 : k ≤ 12) (hcl : xg 0 h.2.1 21 8 = nI k) : xt_P (d + 1) xi_X5_strengthOf xmi_X5_strengthOf 0 [(0, .ref 21), (1, .int (nI m))] [] h (fun v h' => h = h' ∧ ∃ w : Nat, v = some (.int (nI w)) ∧ w ≤ k ∧ ((∃ c, c < k ∧ so_n h m c) → w < k)) := by
  refine xa_tn 4 [0, 1, 2, 3] [(0, .ref 21), (1, .int (nI m)), (2, .int (Int32.ofInt 0)), (3, .int (Int32.ofInt 0))] [] h [] 6 (a_rq_of hi hn) rfl trivial (fun _ => ?_)
  exact so_loop hi hn hm hk12 hcl k 0 0 (by omega) (Nat.le_refl _) (fun ⟨c', hc', _⟩ => absurd hc' (Nat.not_lt_zero c'))
abbrev fc_md : List (Nat × Nat) := [(21, 8), (23, 0), (24, 0), (25, 0), (26, 0)]
/-- everybody is the like of a first one, or is one -/
theorem fc_ch {h : xh_H} (hJ : a_J a_tb h) : ∀ m : Nat, (m : Int) < (xg 0 h.2.1 14 7).toInt → ∃ f : Nat, f ≤ m ∧ fc_f h f ∧ (f = m ∨ (a_ge h m f ∧ a_ge h f m)) := by
  intro m
  induction m using Nat.strongRecOn with
  | ind m ih =>
    intro hm
    by_cases hf : fc_f h m
    · exact ⟨m, Nat.le_refl _, hf, Or.inl rfl⟩
    · unfold fc_f at hf
      rw [Classical.not_forall] at hf
      obtain ⟨o, hf⟩ := hf
      rw [Classical.not_imp, Classical.not_not] at hf
      obtain ⟨ho, h1, h2⟩ := hf
      obtain ⟨f, f1, f2, f3⟩ := ih o ho (by omega)
      refine ⟨f, by omega, f2, Or.inr ?_⟩
      rcases f3 with rfl | ⟨f3, f4⟩
      · exact ⟨h1, h2⟩
      · exact ⟨hJ.2.2.2 rfl m o f hm (by omega) (by omega) h1 f3, hJ.2.2.2 rfl f o m (by omega) (by omega) hm f4 h2⟩
set_option maxRecDepth 100000 in
set_option maxHeartbeats 8000000 in
/-- the first loop of findClasses -/
theorem fc_1 {d : Nat} {h0 : xh_H} {Q : Option Value → xh_H → Prop} (hn : 72 ≤ h0.1.length) (K : ∀ h' k, hk fc_md h0 h' → xg 0 h'.2.1 21 8 = nI k → k ≤ 12 → (∀ f : Nat, (f : Int) < (xg 0 h0.2.1 14 7).toInt → fc_f h0 f → ∃ c, c < k ∧ xg 0 h'.2.1 24 c = nI f) → xt_P (d + 2) xi_X5_findClasses xmi_X5_findClasses 54 [(0, .ref 21), (1, .int (Int32.ofInt 0))] [] h' Q) : ∀ (n m k : Nat) (h : xh_H), (m : Int) + n = (xg 0 h0.2.1 14 7).toInt → hk fc_md h0 h → xg 0 h.2.1 21 8 = nI k → k ≤ m → (∀ f, f < m → fc_f h0 f → ∃ c, c < k ∧ xg 0 h.2.1 24 c = nI f) → xt_P (d + 2) xi_X5_findClasses xmi_X5_findClasses 7 [(0, .ref 21), (1, .int (nI m))] [] h Q := by
  intro n
  induction n with
  | zero =>
    intro m k h hm hk0 hcl hkm hf
    have em := hk_g (c := 14) (k := 7) hk0 rfl rfl
    have eb := a_flx (c := 14) (k := 7) (lo := 0) (hi := 12) hk0.1.1 (hk_n hk0 hn) rfl rfl (by decide)
    rw [em] at eb
    refine xa_tn 54 [0, 1] [(0, .ref 21), (1, .int (Int32.ofInt 0))] [] h [true] 9 (hk_q hk0 hn) rfl ⟨xge_t (show (xg 0 h.2.1 14 7).toInt ≤ (nI m).toInt by rw [em, nI_toInt (by omega)]; omega), trivial⟩ (fun _ => ?_)
    exact K h k hk0 hcl (by omega) (fun f h1 h2 => hf f (by omega) h2)
  | succ n ih =>
    intro m k h hm hk0 hcl hkm hf
    have em := hk_g (c := 14) (k := 7) hk0 rfl rfl
    have eb := a_flx (c := 14) (k := 7) (lo := 0) (hi := 12) hk0.1.1 (hk_n hk0 hn) rfl rfl (by decide)
    rw [em] at eb
    have emi := nI_toInt (n := m) (by omega)
    have e1 : nI m + Int32.ofInt 1 = nI (m + 1) := nI_1 m
    have ege : ∀ a b, a_ge h a b ↔ a_ge h0 a b := fun a b => by
      unfold a_ge
      rw [hk_g (c := 19) (k := a) hk0 rfl rfl]
    have ef : fc_f h m ↔ fc_f h0 m := by
      unfold fc_f
      constructor
      · intro z o ho w
        exact z o ho ⟨(ege _ _).mpr w.1, (ege _ _).mpr w.2⟩
      · intro z o ho w
        exact z o ho ⟨(ege _ _).mp w.1, (ege _ _).mp w.2⟩
    refine xa_tn 20 [0, 1] [(0, .ref 21), (1, .int (nI m))] [.int (nI m), .ref 21] h [false] 9 (hk_q hk0 hn) rfl ⟨xge_f (show (nI m).toInt < (xg 0 h.2.1 14 7).toInt by rw [em, emi]; omega), trivial⟩ (fun hq => ?_)
    refine xp_run hq rfl rfl (if5_run (d := d) hk0.1.1 (hk_n hk0 hn) (m := m) (by omega)) ?_
    rintro v h1 ⟨rfl, p, rfl, hp⟩
    cases p with
    | false =>
      refine xa_tn 7 [0, 1] [(0, .ref 21), (1, .int ((nI m) + Int32.ofInt 1))] [] h [true] 5 hq rfl ⟨rfl, trivial⟩ (fun _ => ?_)
      rw [e1]
      refine ih (m + 1) k h (by omega) hk0 hcl (by omega) (fun f h1 h2 => ?_)
      by_cases e : f = m
      · subst e
        have := hp.mpr (ef.mpr h2)
        cases this
      · exact hf f (by omega) h2
    | true =>
      have hink := xin_n (k := k) (n := 12) (by omega) (by omega)
      have ekc : (nI k).toNatClampNeg = k := nI_clamp (by omega)
      refine xa_tn 36 [0, 1] [(0, .ref 21), (1, .int (nI m))] [] (xh_ui h 24 (xg 0 h.2.1 21 8).toNatClampNeg (nI m)) [false] 9 hq rfl ⟨rfl, (show xe_in (xg 0 h.2.1 21 8) 12 = true by rw [hcl]; exact hink), trivial⟩ (fun _ => ?_)
      rw [hcl, ekc]
      have hk2 : hk fc_md h0 (xh_ui h 24 k (nI m)) := hk_ui (s := (1, 12)) (lo := 0) (hi := 11) hk0 hn rfl rfl (by omega) (by omega) rfl rfl
      have c8 : xg 0 (xh_ui h 24 k (nI m)).2.1 21 8 = nI k := by rw [gx_o (by decide)]; exact hcl
      have f2 : ∀ f, f < m + 1 → fc_f h0 f → ∃ c, c < k + 1 ∧ xg 0 (xh_ui h 24 k (nI m)).2.1 24 c = nI f := by
        intro f h1 h2
        by_cases e : f = m
        · subst e
          exact ⟨k, by omega, gx_s⟩
        · obtain ⟨c, c1, c2⟩ := hf f (by omega) h2
          exact ⟨c, by omega, by rw [gx_k (by omega)]; exact c2⟩
      generalize xh_ui h 24 k (nI m) = h2 at hk2 c8 f2 ⊢
      refine xa_tn 7 [0, 1] [(0, .ref 21), (1, .int ((nI m) + Int32.ofInt 1))] [] (xh_ui h2 21 8 ((xg 0 h2.2.1 21 8) + (Int32.ofInt 1))) [] 10 (hk_q hk2 hn) rfl trivial (fun _ => ?_)
      have e2 : nI k + Int32.ofInt 1 = nI (k + 1) := nI_1 k
      rw [e1, c8, e2]
      have ek1 := nI_toInt (n := k + 1) (by omega)
      exact ih (m + 1) (k + 1) _ (by omega) (hk_ui (s := (0, 5)) (lo := 0) (hi := 12) hk2 hn rfl rfl (by omega) (by omega) rfl rfl) gx_s (by omega) (fun f h1 h2 => by
        obtain ⟨c, c1, c2⟩ := f2 f h1 h2
        exact ⟨c, c1, by rw [gx_o (by decide)]; exact c2⟩)
set_option maxRecDepth 100000 in
set_option maxHeartbeats 8000000 in
/-- the second -/
theorem fc_2 {d k : Nat} {h0 : xh_H} {Q : Option Value → xh_H → Prop} {g : Nat → Int32} (hn : 72 ≤ h0.1.length) (hk12 : k ≤ 12) (K : ∀ h', hk fc_md h0 h' → xg 0 h'.2.1 21 8 = nI k → (∀ c, xg 0 h'.2.1 24 c = g c) → (∀ j, j < k → (xg 0 h'.2.1 25 j).toInt = 0) → xt_P d xi_X5_findClasses xmi_X5_findClasses 84 [(0, .ref 21), (1, .int (Int32.ofInt 0))] [] h' Q) : ∀ (n c : Nat) (h : xh_H), c + n = k → hk fc_md h0 h → xg 0 h.2.1 21 8 = nI k → (∀ c, xg 0 h.2.1 24 c = g c) → (∀ j, j < c → (xg 0 h.2.1 25 j).toInt = 0) → xt_P d xi_X5_findClasses xmi_X5_findClasses 54 [(0, .ref 21), (1, .int (nI c))] [] h Q := by
  intro n
  induction n with
  | zero =>
    intro c h hc hk0 hcl hg hz
    have e : c = k := by omega
    subst e
    refine xa_tn 84 [0, 1] [(0, .ref 21), (1, .int (Int32.ofInt 0))] [] h [true] 8 (hk_q hk0 hn) rfl ⟨(show xe_c .ge (nI c) (xg 0 h.2.1 21 8) = true by rw [hcl]; exact nge_t (by omega) (by omega) (Nat.le_refl _)), trivial⟩ (fun _ => ?_)
    exact K h hk0 hcl hg hz
  | succ n ih =>
    intro c h hc hk0 hcl hg hz
    have e1 : nI c + Int32.ofInt 1 = nI (c + 1) := nI_1 c
    have hin := xin_n (k := c) (n := 12) (by omega) (by omega)
    refine xa_tn 54 [0, 1] [(0, .ref 21), (1, .int ((nI c) + Int32.ofInt 1))] [] (xh_ui (xh_ui h 25 (nI c).toNatClampNeg (Int32.ofInt 0)) 26 (nI c).toNatClampNeg (Int32.ofInt (-1))) [false] 18 (hk_q hk0 hn) rfl ⟨(show xe_c .ge (nI c) (xg 0 h.2.1 21 8) = false by rw [hcl]; exact nge_f (by omega) (by omega) (by omega)), hin, hin, trivial⟩ (fun _ => ?_)
    rw [e1, nI_clamp (by omega)]
    refine ih (c + 1) _ (by omega) (hk_ui (s := (1, 12)) (lo := -1) (hi := 60) (hk_ui (s := (1, 12)) (lo := 0) (hi := 12) hk0 hn rfl rfl (by decide) (by decide) rfl rfl) hn rfl rfl (by decide) (by decide) rfl rfl) ?_ ?_ ?_
    · rw [gx_o (by decide), gx_o (by decide)]
      exact hcl
    · intro c'
      rw [gx_o (by decide), gx_o (by decide)]
      exact hg c'
    · intro j hj
      rw [gx_o (by decide)]
      by_cases e : j = c
      · subst e
        rw [gx_s]
        rfl
      · rw [gx_k e]
        exact hz j (by omega)
set_option maxRecDepth 100000 in
set_option maxHeartbeats 8000000 in
/-- the third -/
theorem fc_3 {d k : Nat} {h0 : xh_H} {g : Nat → Int32} (hn : 72 ≤ h0.1.length) (hJ : a_J a_tb h0) (hk12 : k ≤ 12) (hg0 : ∀ f : Nat, (f : Int) < (xg 0 h0.2.1 14 7).toInt → fc_f h0 f → ∃ c, c < k ∧ g c = nI f) : ∀ (n m : Nat) (h : xh_H), (m : Int) + n = (xg 0 h0.2.1 14 7).toInt → hk fc_md h0 h → xg 0 h.2.1 21 8 = nI k → (∀ c, xg 0 h.2.1 24 c = g c) → (∀ j, j < k → 0 ≤ (xg 0 h.2.1 25 j).toInt ∧ (xg 0 h.2.1 25 j).toInt ≤ m) → xt_P (d + 2) xi_X5_findClasses xmi_X5_findClasses 84 [(0, .ref 21), (1, .int (nI m))] [] h (fun v h' => v = none ∧ hk fc_md h0 h') := by
  intro n
  induction n with
  | zero =>
    intro m h hm hk0 hcl hg hz
    have em := hk_g (c := 14) (k := 7) hk0 rfl rfl
    have eb := a_flx (c := 14) (k := 7) (lo := 0) (hi := 12) hk0.1.1 (hk_n hk0 hn) rfl rfl (by decide)
    rw [em] at eb
    refine xa_tn 127 [] [] [] h [true] 7 (hk_q hk0 hn) rfl ⟨xge_t (show (xg 0 h.2.1 14 7).toInt ≤ (nI m).toInt by rw [em, nI_toInt (by omega)]; omega), trivial⟩ (fun _ => ?_)
    exact xp_ret rfl rfl rfl ⟨rfl, hk0⟩
  | succ n ih =>
    intro m h hm hk0 hcl hg hz
    have em := hk_g (c := 14) (k := 7) hk0 rfl rfl
    have eb := a_flx (c := 14) (k := 7) (lo := 0) (hi := 12) hk0.1.1 (hk_n hk0 hn) rfl rfl (by decide)
    rw [em] at eb
    have emi := nI_toInt (n := m) (by omega)
    have e1 : nI m + Int32.ofInt 1 = nI (m + 1) := nI_1 m
    have emc : (nI m).toNatClampNeg = m := nI_clamp (by omega)
    have hinm := xin_n (k := m) (n := 12) (by omega) (by omega)
    have ege : ∀ a b, a_ge h a b ↔ a_ge h0 a b := fun a b => by
      unfold a_ge
      rw [hk_g (c := 19) (k := a) hk0 rfl rfl]
    refine xa_tn 102 [0, 1] [(0, .ref 21), (1, .int (nI m))] [.int (nI m), .ref 21, .int (nI m), .ref 23] h [false] 12 (hk_q hk0 hn) rfl ⟨xge_f (show (nI m).toInt < (xg 0 h.2.1 14 7).toInt by rw [em, emi]; omega), trivial⟩ (fun hq => ?_)
    refine xp_run hq rfl rfl (so_run (d := d) hk0.1.1 (hk_n hk0 hn) (m := m) (by omega) hk12 hcl) ?_
    rintro v h1 ⟨rfl, w, rfl, w1, w2⟩
    have wk : w < k := by
      apply w2
      obtain ⟨f, f1, f2, f3⟩ := fc_ch hJ m (by omega)
      obtain ⟨c, c1, c2⟩ := hg0 f (by omega) f2
      refine ⟨c, c1, f, by rw [hg]; exact c2, by omega, ?_⟩
      rintro ⟨z1, z2⟩
      rcases f3 with rfl | ⟨f3, f4⟩
      · exact z2 z1
      · exact z2 ((ege _ _).mpr f4)
    have ewi := nI_toInt (n := w) (by omega)
    have ewc : (nI w).toNatClampNeg = w := nI_clamp (by omega)
    have hinw := xin_n (k := w) (n := 12) (by omega) (by omega)
    refine xa_tn 106 [0, 1] [(0, .ref 21), (1, .int (nI m))] [] (xh_ui h 23 (nI m).toNatClampNeg (nI w)) [] 3 hq rfl ⟨hinm, trivial⟩ (fun _ => ?_)
    rw [emc]
    have hk2 : hk fc_md h0 (xh_ui h 23 m (nI w)) := hk_ui (s := (1, 12)) (lo := 0) (hi := 11) hk0 hn rfl rfl (by omega) (by omega) rfl rfl
    have c8 : xg 0 (xh_ui h 23 m (nI w)).2.1 21 8 = nI k := by rw [gx_o (by decide)]; exact hcl
    have c24 : ∀ c, xg 0 (xh_ui h 23 m (nI w)).2.1 24 c = g c := fun c => by rw [gx_o (by decide)]; exact hg c
    have c25 : ∀ j, xg 0 (xh_ui h 23 m (nI w)).2.1 25 j = xg 0 h.2.1 25 j := fun j => gx_o (by decide)
    have c23 : xg 0 (xh_ui h 23 m (nI w)).2.1 23 m = nI w := gx_s
    generalize xh_ui h 23 m (nI w) = h2 at hk2 c8 c24 c25 c23 ⊢
    have inw : xe_in (xg 0 h2.2.1 23 (nI m).toNatClampNeg) 12 = true := by rw [emc, c23]; exact hinw
    refine xa_tn 84 [0, 1] [(0, .ref 21), (1, .int ((nI m) + Int32.ofInt 1))] [] (xh_ui h2 25 (xg 0 h2.2.1 23 (nI m).toNatClampNeg).toNatClampNeg ((xg 0 h2.2.1 25 (xg 0 h2.2.1 23 (nI m).toNatClampNeg).toNatClampNeg) + (Int32.ofInt 1))) [] 15 (hk_q hk2 hn) rfl ⟨hinm, inw, inw, trivial⟩ (fun _ => ?_)
    rw [emc, c23, ewc, e1]
    have zw := hz w wk
    have zw2 := c25 w
    have ei := i_inc (x := xg 0 h2.2.1 25 w) (by rw [zw2]; omega)
    rw [zw2] at ei
    refine ih (m + 1) _ (by omega) (hk_ui (s := (1, 12)) (lo := 0) (hi := 12) hk2 hn rfl rfl (by rw [zw2]; omega) (by rw [zw2]; omega) rfl rfl) ?_ ?_ ?_
    · rw [gx_o (by decide)]
      exact c8
    · intro c
      rw [gx_o (by decide)]
      exact c24 c
    · intro j hj
      by_cases e : j = w
      · subst e
        rw [gx_s, zw2]
        omega
      · rw [gx_k e, c25]
        have := hz j hj
        omega
set_option maxRecDepth 100000 in
theorem as_h_X5_findClasses : a_spec a_tb aC_h_X5_findClasses := by
  intro d mi vs h σ hd hM hi hn ha _
  cases hM
  match vs, ha with
  | [v0], ha =>
    obtain ⟨⟨q, rfl, hq⟩, -⟩ := ha
    have eq : q = 21 := a_r_ob (t := 21) (by decide) hq
    subst eq
    have hd : 2 ≤ d := hd
    obtain ⟨d, rfl⟩ : ∃ d', d = d' + 2 := ⟨d - 2, by omega⟩
    have eb := a_flx (c := 14) (k := 7) (lo := 0) (hi := 12) hi.1 hn rfl rfl (by decide)
    have main : xt_P (d + 2) xi_X5_findClasses xmi_X5_findClasses 0 [(0, .ref 21)] [] h (fun v h' => v = none ∧ hk fc_md h h') := by
      refine xa_tn 7 [0, 1] [(0, .ref 21), (1, .int (Int32.ofInt 0))] [] (xh_ui h 21 8 (Int32.ofInt 0)) [] 7 (a_rq_of hi.1 hn) rfl trivial (fun _ => ?_)
      refine fc_1 hn ?_ (xg 0 h.2.1 14 7).toInt.toNat 0 0 _ (by omega) (hk_ui (s := (0, 5)) (lo := 0) (hi := 12) (hk_0 hi) hn rfl rfl (by decide) (by decide) rfl rfl) gx_s (Nat.le_refl _) (fun f hf => absurd hf (Nat.not_lt_zero f))
      intro h1 k hk1 c1 k12 f1
      refine fc_2 (g := fun c => xg 0 h1.2.1 24 c) hn k12 ?_ k 0 h1 (by omega) hk1 c1 (fun _ => rfl) (fun j hj => absurd hj (Nat.not_lt_zero j))
      intro h2 hk2 c2 g2 z2
      exact fc_3 (g := fun c => xg 0 h1.2.1 24 c) hn hi.2 k12 f1 (xg 0 h.2.1 14 7).toInt.toNat 0 h2 (by omega) hk2 c2 g2 (fun j hj => by have := z2 j hj; omega)
    obtain ⟨v, h', r, rfl, hk0⟩ := main
    exact ⟨none, h', r, hk0.1, hk0.2.1, ⟨_, List.mem_singleton.mpr rfl, rfl, a_fp0⟩, hk0.2.2⟩
end XFC
