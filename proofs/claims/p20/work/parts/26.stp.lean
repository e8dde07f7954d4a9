section XAT
variable {tb : aT} {σ : aN → Int} {h0 : xh_H} {md : List (Nat × Nat)} {A A' : aS} {lv : List (Nat × Value)} {st : List Value} {h : xh_H} {nL d pc n : Nat}
def a_mem (md : List (Nat × Nat)) (q : Nat × Nat) : Bool := match md with
  | [] => false
  | p :: t => cond (a_nq p q) true (a_mem t q)
theorem a_mem_ok {q : Nat × Nat} : ∀ {md : List (Nat × Nat)}, a_mem md q = true → q ∈ md := by
  intro md
  induction md with
  | nil => intro h; cases h
  | cons p t ih =>
    intro h
    unfold a_mem at h
    cases hb : a_nq p q with
    | true => rw [a_nq_ok hb]; exact List.mem_cons_self
    | false => rw [hb] at h; exact List.mem_cons_of_mem _ (ih h)
/-- an int field is written -/
def a_pf (tb : aT) (md : List (Nat × Nat)) (E : aF) (a : aV) (t ci k : Nat) : Bool := (a_ob t && !(a_jc t k)) && (decide (a_sh[t]? = some (0, ci)) && (Nat.blt k (xh_N ci) && (a_mem md (t, k) && (Nat.beq (a_ent tb (0, ci) t k).1 0 && (decide ((a_ent tb (0, ci) t k).2.1 ≤ (a_bd E a).1) && (decide ((a_bd E a).2 ≤ (a_ent tb (0, ci) t k).2.2) && (match xh_ty ci k with
  | .int => true
  | .boolean => decide (0 ≤ (a_bd E a).1) && decide ((a_bd E a).2 ≤ 1)
  | _ => false)))))))
theorem a_i01 {x : Int32} (h1 : 0 ≤ x.toInt) (h2 : x.toInt ≤ 1) : (decide (x = 0) || decide (x = 1)) = true := by
  have e0 : (0 : Int32).toInt = 0 := rfl
  have e1 : (1 : Int32).toInt = 1 := rfl
  rcases Int.lt_or_le x.toInt 1 with h | h
  · rw [show x = 0 from Int32.toInt_inj.mp (by omega)]; rfl
  · rw [show x = 1 from Int32.toInt_inj.mp (by omega)]; rfl
theorem a_pf_ok {a : aV} {t ci k b : Nat} {x : Int32} {q : List aV} {V : List Value} {r3 : Nat} (hs : a_s tb σ h0 md A lv st h) (hx : a_i σ a x) (hk : a.1 = 0) (hq : a_st σ h.1.length q V) (hb : a_r h.1.length t b) (he : a_pf tb md A.2.2.1 a t ci k = true) : h.1[b]? = some (0, ci) ∧ xe_put h b (xh_ty ci k) k (.int x) = some (xh_ui h b k x) ∧ a_s tb σ h0 md (A.1, q, A.2.2.1, ((t, k), a) :: A.2.2.2.filter (fun q => !(a_nq q.1 (t, k)))) lv V (xh_ui h b k x) := by
  obtain ⟨i1, i2, i3, i4, i5, i6, i7⟩ := hs
  have hbd := a_bd_ok i5 hx
  unfold a_pf at he
  obtain ⟨h1, h2⟩ := xw_bb he
  obtain ⟨h1, hjc⟩ := xw_bb h1
  rw [Bool.not_eq_true'] at hjc
  obtain ⟨h2, h3⟩ := xw_bb h2
  obtain ⟨h3, h4⟩ := xw_bb h3
  obtain ⟨h4, h5⟩ := xw_bb h4
  obtain ⟨h5, h6⟩ := xw_bb h5
  obtain ⟨h6, h7⟩ := xw_bb h6
  obtain ⟨h7, h8⟩ := xw_bb h7
  have h2 := of_decide_eq_true h2
  have h3 := Nat.blt_eq.mp h3
  have h4 := a_mem_ok h4
  have h5 := xw_beq h5
  have h6 := of_decide_eq_true h6
  have h7 := of_decide_eq_true h7
  have hsh := a_sh_at i1 hb h2
  have eb := a_r_ob h1 hb
  subst eb
  refine ⟨hsh, ?_, ?_, i2, i3, hq, i5, ?_, ?_⟩
  · revert h8
    unfold xe_put
    cases xh_ty ci k <;> intro h8 <;> first | rfl | (cases h8; done) | skip
    dsimp only at h8 ⊢
    obtain ⟨c1, c2⟩ := xw_bb h8
    have c1 := of_decide_eq_true c1
    have c2 := of_decide_eq_true c2
    rw [a_i01 (by omega) (by omega)]
    rfl
  · refine a_inv_ui (s := (0, ci)) (lo := (a_ent tb (0, ci) b k).2.1) (hi := (a_ent tb (0, ci) b k).2.2) i1 hsh hjc ?_ (by omega) (by omega)
    rw [hb.2]
    exact Prod.ext h5 rfl
  · intro p hp
    rcases List.mem_cons.mp hp with rfl | hp
    · refine ⟨h1, ?_⟩
      show a_v σ h.1.length a (.int (xg 0 (xh_up 0 h.2.1 b k x) b k))
      rw [xh_up_s]
      exact a_vi hk hx
    · obtain ⟨hp, hn⟩ := List.mem_filter.mp hp
      obtain ⟨o1, o2⟩ := i6 p hp
      refine ⟨o1, ?_⟩
      show a_v σ h.1.length p.2 (.int (xg 0 (xh_up 0 h.2.1 b k x) p.1.1 p.1.2))
      have hne : p.1 ≠ (b, k) := by
        rw [Bool.not_eq_true'] at hn
        exact a_nq_no hn
      by_cases e1 : p.1.1 = b
      · rw [e1] at o2 ⊢
        rw [xh_up_k (fun z => hne (Prod.ext e1 z))]
        exact o2
      · rw [xh_up_o e1]
        exact o2
  · intro c' k' hc hm
    show xg 0 (xh_up 0 h.2.1 b k x) c' k' = xg 0 h0.2.1 c' k'
    rw [← i7 c' k' hc hm]
    by_cases e1 : c' = b
    · subst e1
      exact xh_up_k (fun z => hm (by rw [z, a_key_ob h1]; exact h4))
    · rw [xh_up_o e1]
/-- an array's element is read or written: the place, and the element's bounds -/
def a_ix (tb : aT) (E : aF) (i : aV) (t k : Nat) : Option (Nat × Int × Int) := match a_sh[t]? with
  | some s => cond (Nat.beq s.1 k && (decide (0 ≤ (a_bd E i).1) && (decide ((a_bd E i).2 < (s.2 : Int)) && (!(Nat.beq k 0) && Nat.ble s.2 1000000)))) (some (a_ent tb s t 0)) none
  | none => none
theorem a_ent0 {s : Nat × Nat} {t k : Nat} (hk : ¬ s.1 = 0) : a_ent tb s t k = a_ent tb s t 0 := by
  unfold a_ent
  split
  · rename_i e; exact absurd e hk
  · rfl
theorem a_ix_ok {i : aV} {t k b : Nat} {x : Int32} {e : Nat × Int × Int} (hi : a_inv tb h) (hE : a_f σ A.2.2.1) (hx : a_i σ i x) (hb : a_r h.1.length t b) (he : a_ix tb A.2.2.1 i t k = some e) : ∃ m, h.1[b]? = some (k, m) ∧ xe_in x m = true ∧ a_e h b x.toNatClampNeg e ∧ a_ent tb (k, m) (a_tg b) x.toNatClampNeg = e ∧ ¬ k = 0 := by
  have hbd := a_bd_ok hE hx
  unfold a_ix at he
  split at he
  · rename_i s hs
    obtain ⟨h1, h2⟩ := xw_c he
    cases h2
    obtain ⟨h1, h2⟩ := xw_bb h1
    obtain ⟨h2, h3⟩ := xw_bb h2
    obtain ⟨h3, h4⟩ := xw_bb h3
    obtain ⟨h4, h5⟩ := xw_bb h4
    have h1 := xw_beq h1
    have h2 := of_decide_eq_true h2
    have h3 := of_decide_eq_true h3
    have h5 := xw_ble h5
    have hk0 : ¬ k = 0 := by
      intro z
      rw [z] at h4
      cases h4
    have hsh := a_sh_at hi hb hs
    obtain ⟨s1, s2⟩ := s
    dsimp only at h1 h3 h5
    subst h1
    obtain ⟨en, hl⟩ := a_nIx (y := x) (by omega)
    have hcl : x.toNatClampNeg = x.toInt.toNat := by
      rw [en, nI_clamp hl, ← en]
    have hent : a_ent tb (s1, s2) (a_tg b) x.toNatClampNeg = a_ent tb (s1, s2) t 0 := by rw [a_ent0 hk0, hb.2]
    refine ⟨s2, hsh, ?_, ?_, hent, hk0⟩
    · unfold xe_in
      have hz : ¬ x < 0 := by rw [Int32.lt_iff_toInt_lt]; show ¬ x.toInt < 0; omega
      rw [hcl, decide_eq_false hz, Nat.ble_eq.mpr (show x.toInt.toNat + 1 ≤ s2 by omega)]
      rfl
    · have g := (hi.1 b _ hsh).2 x.toNatClampNeg (by
        unfold a_sz
        dsimp only
        split
        · exact absurd rfl hk0
        · rw [hcl]; omega)
      rw [hent] at g
      exact g
  · cases he
/-- an array's element is written -/
theorem a_wr {b t : Nat} {k m : Nat} {x y : Int32} {lo hi : Int} (hb : a_r h.1.length t b) (hmd : (a_mem md (t, 0) && !(a_jc t 0)) = true) (hs : a_s tb σ h0 md A lv st h) (hsh : h.1[b]? = some (k, m)) (hk0 : ¬ k = 0) (he : a_ent tb (k, m) (a_tg b) x.toNatClampNeg = (0, lo, hi)) (h1 : lo ≤ y.toInt) (h2 : y.toInt ≤ hi) {q : List aV} {V : List Value} (hq : a_st σ h.1.length q V) : a_s tb σ h0 md (A.1, q, A.2.2) lv V (xh_ui h b x.toNatClampNeg y) := by
  obtain ⟨i1, i2, i3, i4, i5, i6, i7⟩ := hs
  have hne : ∀ c, a_ob c = true → c ≠ b := by
    intro c hc e
    subst e
    obtain ⟨g1, g2, g3⟩ := a_ob_lt c hc
    have g4 := (i1.1 c _ hsh).1
    rw [a_tg_lt g1] at g4
    unfold a_ob at hc
    rw [g4] at hc
    match k, hk0, hc with
    | k + 1, _, hc => cases hc
  obtain ⟨hmd, hjc⟩ := xw_bb hmd
  rw [Bool.not_eq_true'] at hjc
  have hjb : a_jc b x.toNatClampNeg = false := a_jc_ar (fun e => hne 14 rfl e.symm) (fun e => hne 39 rfl e.symm) (fun hlt => by rw [← hb.2, a_tg_lt hlt]) hjc
  refine ⟨a_inv_ui i1 hsh hjb he h1 h2, i2, i3, hq, i5, ?_, ?_⟩
  · intro p hp
    obtain ⟨o1, o2⟩ := i6 p hp
    refine ⟨o1, ?_⟩
    show a_v σ h.1.length p.2 (.int (xg 0 (xh_up 0 h.2.1 b x.toNatClampNeg y) p.1.1 p.1.2))
    rw [xh_up_o (hne _ o1)]
    exact o2
  · intro c' k' hc hm
    show xg 0 (xh_up 0 h.2.1 b x.toNatClampNeg y) c' k' = xg 0 h0.2.1 c' k'
    by_cases e : c' = b
    · subst e
      exfalso
      apply hm
      have e1 : t = c' := by rw [← hb.2, a_tg_lt (a_fz_lt hc)]
      have e2 : a_ob c' = false := by
        cases h8 : a_ob c' with
        | false => rfl
        | true => exact absurd rfl (hne c' h8)
      unfold a_key
      rw [e2, ← e1]
      exact a_mem_ok hmd
    · rw [xh_up_o e]
      exact i7 c' k' hc hm
def a_bin (f : aV → aV → aV) (A : aS) : Option (Nat × aS) := match a_pi A.2.1 with
  | some (y, q) => (match a_pi q with
    | some (x, q2) => some (1, A.1, f x y :: q2, A.2.2)
    | none => none)
  | none => none
theorem a_bin_ok {f : aV → aV → aV} (g : Int32 → Int32 → Int32) (hf : ∀ a b x y, a_i σ a x → a_i σ b y → a_i σ (f a b) (g x y) ∧ (f a b).1 = 0) (hs : a_s tb σ h0 md A lv st h) (he : a_bin f A = some (n, A')) : ∃ y x V, st = .int y :: .int x :: V ∧ n = 1 ∧ a_s tb σ h0 md A' lv (.int (g x y) :: V) h := by
  obtain ⟨i1, i2, i3, i4, i5, i6, i7⟩ := hs
  unfold a_bin at he
  split at he
  · rename_i b q hb
    split at he
    · rename_i a q2 ha
      cases he
      obtain ⟨y, V, rfl, hy, hq, _⟩ := a_pi_ok i4 hb
      obtain ⟨x, V, rfl, hx, hq, _⟩ := a_pi_ok hq ha
      obtain ⟨c1, c2⟩ := hf a b x y hx hy
      exact ⟨y, x, V, rfl, rfl, i1, i2, i3, ⟨a_vi c2 c1, hq⟩, i5, i6, i7⟩
    · cases he
  · cases he
/-- a long is written -/
theorem a_inv_ul {h : xh_H} {c k : Nat} {x : Int64} {s : Nat × Nat} {lo hi : Int} (hi0 : a_inv tb h) (hs : h.1[c]? = some s) (he : a_ent tb s (a_tg c) k = (1, lo, hi)) (h1 : lo ≤ x.toInt) (h2 : x.toInt ≤ hi) : a_inv tb (xh_ul h c k x) := by
  refine ⟨?_, hi0.2⟩
  intro c' s' hc'
  have hc2 : h.1[c']? = some s' := hc'
  obtain ⟨g1, g2⟩ := hi0.1 c' s' hc2
  refine ⟨g1, fun k' hk' => ?_⟩
  by_cases e : c' = c ∧ k' = k
  · obtain ⟨rfl, rfl⟩ := e
    rw [hs] at hc2
    cases hc2
    rw [he]
    show lo ≤ (xg 0 (xh_up 0 h.2.2.1 c' k' x) c' k').toInt ∧ (xg 0 (xh_up 0 h.2.2.1 c' k' x) c' k').toInt ≤ hi
    rw [xh_up_s]
    exact ⟨h1, h2⟩
  · have e2 : xg 0 (xh_ul h c k x).2.2.1 c' k' = xg 0 h.2.2.1 c' k' := by
      show xg 0 (xh_up 0 h.2.2.1 c k x) c' k' = xg 0 h.2.2.1 c' k'
      by_cases e1 : c' = c
      · subst e1
        exact xh_up_k (fun z => e ⟨rfl, z⟩)
      · rw [xh_up_o e1]
    have g := g2 k' hk'
    unfold a_e at g ⊢
    rw [e2]
    exact g
theorem a_wl {b : Nat} {k m : Nat} {x : Int32} {y : Int64} {lo hi : Int} (hs : a_s tb σ h0 md A lv st h) (hsh : h.1[b]? = some (k, m)) (he : a_ent tb (k, m) (a_tg b) x.toNatClampNeg = (1, lo, hi)) (h1 : lo ≤ y.toInt) (h2 : y.toInt ≤ hi) {q : List aV} {V : List Value} (hq : a_st σ h.1.length q V) : a_s tb σ h0 md (A.1, q, A.2.2) lv V (xh_ul h b x.toNatClampNeg y) := by
  obtain ⟨i1, i2, i3, i4, i5, i6, i7⟩ := hs
  exact ⟨a_inv_ul i1 hsh he h1 h2, i2, i3, hq, i5, i6, i7⟩
/-- a reference is written -/
theorem a_inv_ur {h : xh_H} {c k q : Nat} {s : Nat × Nat} {e : Nat × Int × Int} (hi0 : a_inv tb h) (hs : h.1[c]? = some s) (he : a_ent tb s (a_tg c) k = e) (hk : e.1 = 2 ∨ e.1 = 3) (hq : a_r h.1.length e.2.1.toNat q) : a_inv tb (xh_ur h c k (some q)) := by
  refine ⟨?_, hi0.2⟩
  intro c' s' hc'
  have hc2 : h.1[c']? = some s' := hc'
  obtain ⟨g1, g2⟩ := hi0.1 c' s' hc2
  refine ⟨g1, fun k' hk' => ?_⟩
  by_cases e0 : c' = c ∧ k' = k
  · obtain ⟨rfl, rfl⟩ := e0
    rw [hs] at hc2
    cases hc2
    rw [he]
    have ex : xg none (xh_ur h c' k' (some q)).2.2.2 c' k' = some q := by
      show xg none (xh_up none h.2.2.2 c' k' (some q)) c' k' = some q
      rw [xh_up_s]
    unfold a_e
    rcases hk with hk | hk
    · rw [hk]
      exact ⟨q, ex, hq⟩
    · rw [hk]
      intro q2 e2
      rw [ex] at e2
      cases e2
      exact hq
  · have e2 : xg none (xh_ur h c k (some q)).2.2.2 c' k' = xg none h.2.2.2 c' k' := by
      show xg none (xh_up none h.2.2.2 c k (some q)) c' k' = xg none h.2.2.2 c' k'
      by_cases e1 : c' = c
      · subst e1
        exact xh_up_k (fun z => e0 ⟨rfl, z⟩)
      · rw [xh_up_o e1]
    have g := g2 k' hk'
    unfold a_e at g ⊢
    rw [e2]
    exact g
def a_isl (ty : FieldType) : Bool := match ty with
  | .long => true
  | _ => false
def a_iso (ty : FieldType) : Bool := match ty with
  | .object _ => true
  | .array _ => true
  | _ => false
/-- a long field is written; a reference field -/
def a_pg (tb : aT) (a : aV) (t ci k : Nat) : Bool := decide (a_sh[t]? = some (0, ci)) && (Nat.blt k (xh_N ci) && ((Nat.beq a.1 1 && (Nat.beq (a_ent tb (0, ci) t k).1 1 && (decide ((a_ent tb (0, ci) t k).2.1 ≤ a.2.1) && (decide (a.2.2.1 ≤ (a_ent tb (0, ci) t k).2.2) && a_isl (xh_ty ci k))))) || (Nat.beq a.1 2 && ((Nat.beq (a_ent tb (0, ci) t k).1 2 || Nat.beq (a_ent tb (0, ci) t k).1 3) && (decide ((a_ent tb (0, ci) t k).2.1 = a.2.1) && a_iso (xh_ty ci k))))))
theorem a_pg_ok {a : aV} {t ci k b : Nat} {v : Value} {q : List aV} {V : List Value} (hs : a_s tb σ h0 md A lv st h) (hv : a_v σ h.1.length a v) (hq : a_st σ h.1.length q V) (hb : a_r h.1.length t b) (he : a_pg tb a t ci k = true) : h.1[b]? = some (0, ci) ∧ ∃ h', xe_put h b (xh_ty ci k) k v = some h' ∧ a_s tb σ h0 md (A.1, q, A.2.2) lv V h' := by
  obtain ⟨i1, i2, i3, i4, i5, i6, i7⟩ := hs
  unfold a_pg at he
  obtain ⟨c1, u1⟩ := xw_bb he
  obtain ⟨c2, c3⟩ := xw_bb u1
  have c1 := of_decide_eq_true c1
  have hsh := a_sh_at i1 hb c1
  refine ⟨hsh, ?_⟩
  rw [Bool.or_eq_true] at c3
  rcases c3 with c3 | c3
  · obtain ⟨d1, u2⟩ := xw_bb c3
    obtain ⟨d2, u3⟩ := xw_bb u2
    obtain ⟨d3, u4⟩ := xw_bb u3
    obtain ⟨d4, d5⟩ := xw_bb u4
    have d1 := xw_beq d1
    have d2 := xw_beq d2
    have d3 := of_decide_eq_true d3
    have d4 := of_decide_eq_true d4
    unfold a_v at hv
    rw [d1] at hv
    obtain ⟨x, rfl, g1, g2⟩ := hv
    refine ⟨xh_ul h b k x, ?_, ?_⟩
    · revert d5
      cases xh_ty ci k <;> intro d5 <;> first | rfl | (cases d5; done)
    · refine ⟨a_inv_ul (s := (0, ci)) (lo := (a_ent tb (0, ci) t k).2.1) (hi := (a_ent tb (0, ci) t k).2.2) i1 hsh ?_ (by omega) (by omega), i2, i3, hq, i5, i6, i7⟩
      rw [hb.2]
      exact Prod.ext d2 rfl
  · obtain ⟨d1, u2⟩ := xw_bb c3
    obtain ⟨d2, u3⟩ := xw_bb u2
    obtain ⟨d3, d5⟩ := xw_bb u3
    have d1 := xw_beq d1
    have d3 := of_decide_eq_true d3
    unfold a_v at hv
    rw [d1] at hv
    obtain ⟨x, rfl, g1⟩ := hv
    refine ⟨xh_ur h b k (some x), ?_, ?_⟩
    · revert d5
      cases xh_ty ci k <;> intro d5 <;> first | rfl | (cases d5; done)
    · refine ⟨a_inv_ur (s := (0, ci)) (e := a_ent tb (0, ci) t k) i1 hsh (by rw [hb.2]) ?_ (by rw [d3]; exact g1), i2, i3, hq, i5, i6, i7⟩
      rw [Bool.or_eq_true] at d2
      rcases d2 with d2 | d2
      · exact Or.inl (xw_beq d2)
      · exact Or.inr (xw_beq d2)
end XAT
