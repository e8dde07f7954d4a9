section XAS
theorem a_e_congr {h h' : xh_H} {c k : Nat} {e : Nat × Int × Int} (h1 : h'.1 = h.1) (h2 : xg 0 h'.2.1 c k = xg 0 h.2.1 c k) (h3 : h'.2.2 = h.2.2) (he : a_e h c k e) : a_e h' c k e := by
  unfold a_e at he ⊢
  rw [h1, h2, h3]
  exact he
/-- an int is written -/
theorem a_inw_ui {tb : aT} {h : xh_H} {c k : Nat} {x : Int32} {s : Nat × Nat} {lo hi : Int} (hi0 : a_inw tb h) (hs : h.1[c]? = some s) (he : a_ent tb s (a_tg c) k = (0, lo, hi)) (h1 : lo ≤ x.toInt) (h2 : x.toInt ≤ hi) : a_inw tb (xh_ui h c k x) := by
  intro c' s' hc'
  have hc2 : h.1[c']? = some s' := hc'
  obtain ⟨g1, g2⟩ := hi0 c' s' hc2
  refine ⟨g1, fun k' hk' => ?_⟩
  by_cases e : c' = c ∧ k' = k
  · obtain ⟨rfl, rfl⟩ := e
    rw [hs] at hc2
    cases hc2
    rw [he]
    show lo ≤ (xg 0 (xh_up 0 h.2.1 c' k' x) c' k').toInt ∧ (xg 0 (xh_up 0 h.2.1 c' k' x) c' k').toInt ≤ hi
    rw [xh_up_s]
    exact ⟨h1, h2⟩
  · refine a_e_congr (h := h) rfl ?_ rfl (g2 k' hk')
    show xg 0 (xh_up 0 h.2.1 c k x) c' k' = xg 0 h.2.1 c' k'
    by_cases e1 : c' = c
    · subst e1
      exact xh_up_k (fun z => e ⟨rfl, z⟩)
    · rw [xh_up_o e1]
theorem a_J_ui {tb : aT} {h : xh_H} {c k : Nat} {x : Int32} (hj : a_J tb h) (hjc : a_jc c k = false) : a_J tb (xh_ui h c k x) := by
  refine a_J_of hj (fun c' k' e => ?_)
  show xg 0 (xh_up 0 h.2.1 c k x) c' k' = xg 0 h.2.1 c' k'
  by_cases e1 : c' = c
  · subst e1
    refine xh_up_k (fun z => ?_)
    rw [z, hjc] at e
    cases e
  · rw [xh_up_o e1]
theorem a_inv_ui {tb : aT} {h : xh_H} {c k : Nat} {x : Int32} {s : Nat × Nat} {lo hi : Int} (hi0 : a_inv tb h) (hs : h.1[c]? = some s) (hjc : a_jc c k = false) (he : a_ent tb s (a_tg c) k = (0, lo, hi)) (h1 : lo ≤ x.toInt) (h2 : x.toInt ≤ hi) : a_inv tb (xh_ui h c k x) := ⟨a_inw_ui hi0.1 hs he h1 h2, a_J_ui hi0.2 hjc⟩
def a_pi (S : List aV) : Option (aV × List aV) := match S with
  | a :: q => cond (Nat.beq a.1 0) (some (a, q)) none
  | [] => none
theorem a_pi_ok {σ : aN → Int} {n : Nat} {S : List aV} {st : List Value} {a : aV} {q : List aV} (h : a_st σ n S st) (he : a_pi S = some (a, q)) : ∃ x V, st = .int x :: V ∧ a_i σ a x ∧ a_st σ n q V ∧ a.1 = 0 := by
  unfold a_pi at he
  match S, st, h, he with
  | b :: S, v :: V, h, he =>
    obtain ⟨h1, h2⟩ := xw_c he
    cases h2
    have h1 := xw_beq h1
    obtain ⟨g1, g2⟩ := h
    unfold a_v at g1
    rw [h1] at g1
    obtain ⟨x, rfl, g1⟩ := g1
    exact ⟨x, V, rfl, g1, g2, h1⟩
def a_pr (S : List aV) : Option (Nat × List aV) := match S with
  | a :: q => cond (Nat.beq a.1 2) (some (a.2.1.toNat, q)) none
  | [] => none
theorem a_pr_ok {σ : aN → Int} {n : Nat} {S : List aV} {st : List Value} {t : Nat} {q : List aV} (h : a_st σ n S st) (he : a_pr S = some (t, q)) : ∃ b V, st = .ref b :: V ∧ a_r n t b ∧ a_st σ n q V := by
  unfold a_pr at he
  match S, st, h, he with
  | a :: S, v :: V, h, he =>
    obtain ⟨h1, h2⟩ := xw_c he
    cases h2
    have h1 := xw_beq h1
    obtain ⟨g1, g2⟩ := h
    unfold a_v at g1
    rw [h1] at g1
    obtain ⟨b, rfl, g1⟩ := g1
    exact ⟨b, V, rfl, g1, g2⟩
theorem a_vi {σ : aN → Int} {n : Nat} {a : aV} {x : Int32} (hk : a.1 = 0) (h : a_i σ a x) : a_v σ n a (.int x) := by
  unfold a_v
  rw [hk]
  exact ⟨x, rfl, h⟩
def a_kk (k kind : Nat) : Bool := match k with
  | 0 => Nat.beq kind 0
  | 1 => Nat.beq kind 1
  | _ => Nat.ble 2 kind
theorem a_kk_ok {σ : aN → Int} {n k : Nat} {a : aV} {v : Value} (hk : k ≤ 2) (h : a_v σ n a v) (he : a_kk k a.1 = true) : xv_k k v = true := by
  unfold a_v at h
  match k, hk, he with
  | 0, _, he =>
    have he := xw_beq he
    rw [he] at h
    obtain ⟨x, rfl, _⟩ := h
    rfl
  | 1, _, he =>
    have he := xw_beq he
    rw [he] at h
    obtain ⟨x, rfl, _⟩ := h
    rfl
  | 2, _, he =>
    have he := xw_ble he
    split at h
    · omega
    · omega
    · obtain ⟨q, rfl, _⟩ := h; rfl
    · rcases h with rfl | ⟨q, rfl, _⟩ <;> rfl
    · rw [h]; rfl
def a_ld (k i len : Nat) (A : aS) : Option (Nat × aS) := match a_lk A.1 i with
  | some a => cond (a_kk k a.1) (some (len, A.1, a :: A.2.1, A.2.2)) none
  | none => none
def a_sv (k i len nL : Nat) (A : aS) : Option (Nat × aS) := match A.2.1 with
  | a :: q => cond (a_kk k a.1 && (Nat.ble (i + 1) nL && !(Nat.beq a.1 1))) (some (len, a_set A.1 i a, q, A.2.2)) none
  | [] => none
variable {tb : aT} {σ : aN → Int} {h0 : xh_H} {md : List (Nat × Nat)} {A A' : aS} {lv : List (Nat × Value)} {st : List Value} {h : xh_H} {nL d pc n : Nat}
theorem a_ld_ok {k i len : Nat} (hk : k ≤ 2) (hs : a_s tb σ h0 md A lv st h) (he : a_ld k i len A = some (n, A')) : ∃ lv' st' h', xe_ld k i len pc lv st h 0 0 = some (pc + n, lv', st', h', 0, 0) ∧ a_s tb σ h0 md A' lv' st' h' := by
  obtain ⟨i1, i2, i3, i4, i5, i6, i7⟩ := hs
  unfold a_ld at he
  split at he
  · rename_i a ha
    obtain ⟨h1, h2⟩ := xw_c he
    cases h2
    obtain ⟨v, g1, g2⟩ := i3 _ (a_lk_mem ha)
    refine ⟨lv, v :: st, h, ?_, i1, i2, i3, ⟨g2, i4⟩, i5, i6, i7⟩
    unfold xe_ld
    rw [g1]
    dsimp only
    rw [a_kk_ok hk g2 h1]
    rfl
  · cases he
theorem a_sv_ok {k i len : Nat} (hk : k ≤ 2) (hs : a_s tb σ h0 md A lv st h) (he : a_sv k i len nL A = some (n, A')) : ∃ lv' st' h', xe_st1 k i len pc nL lv st h 0 0 = some (pc + n, lv', st', h', 0, 0) ∧ a_s tb σ h0 md A' lv' st' h' := by
  obtain ⟨i1, i2, i3, i4, i5, i6, i7⟩ := hs
  unfold a_sv at he
  split at he
  · rename_i a q ha
    obtain ⟨h1, h2⟩ := xw_c he
    cases h2
    obtain ⟨h1, h3⟩ := xw_bb h1
    obtain ⟨h3, h4⟩ := xw_bb h3
    rw [ha] at i4
    match st, i4 with
    | v :: V, i4 =>
      refine ⟨xl_1 lv i v, V, h, ?_, i1, i2, a_set_ok i3 i4.1, i4.2, i5, i6, i7⟩
      unfold xe_st1
      dsimp only
      rw [a_kk_ok hk i4.1 h1, h3]
      rfl
  · cases he
/-- a field's or an element's bounds, as a value -/
def a_tv (e : Nat × Int × Int) : Option aV := match e.1 with
  | 0 => some (a_I e.2.1 e.2.2)
  | 1 => some (1, e.2.1, e.2.2, none, [], [])
  | 2 => some (2, e.2.1, 0, none, [], [])
  | 3 => some (3, e.2.1, 0, none, [], [])
  | _ => none
/-- which kind of entry a type wants -/
def a_ty (ty : FieldType) (k : Nat) : Bool := match ty with
  | .int => Nat.beq k 0
  | .boolean => Nat.beq k 0
  | .long => Nat.beq k 1
  | .object _ => Nat.ble 2 k
  | .array _ => Nat.ble 2 k
  | _ => false
theorem a_tv_ok {c k : Nat} {e : Nat × Int × Int} {a : aV} {ty : FieldType} (he : a_e h c k e) (hv : a_tv e = some a) (ht : a_ty ty e.1 = true) : a_v σ h.1.length a (xh_get h c ty k) := by
  obtain ⟨ek, lo, hi⟩ := e
  unfold a_tv at hv
  unfold a_e at he
  dsimp only at hv he ht
  have hn : ∀ (hk : 2 ≤ ek), xh_get h c ty k = va_rf (xg none h.2.2.2 c k) := by
    intro hk
    cases ty <;> first | rfl | (simp [a_ty] at ht; done) | (have := xw_beq ht; omega)
  match ek, hv, he, ht, hn with
  | 0, hv, he, ht, _ =>
    cases hv
    have e2 : xh_get h c ty k = .int (xg 0 h.2.1 c k) := by cases ty <;> first | rfl | (cases ht; done)
    rw [e2]
    exact ⟨_, rfl, a_I_ok he.1 he.2⟩
  | 1, hv, he, ht, _ =>
    cases hv
    have e2 : xh_get h c ty k = .long (xg 0 h.2.2.1 c k) := by cases ty <;> first | rfl | (cases ht; done)
    rw [e2]
    exact ⟨_, rfl, he.1, he.2⟩
  | 2, hv, he, ht, hn =>
    cases hv
    rw [hn (by omega)]
    obtain ⟨q, e1, e2⟩ := he
    rw [e1]
    exact ⟨q, rfl, e2⟩
  | 3, hv, he, ht, hn =>
    cases hv
    rw [hn (by omega)]
    cases e1 : xg none h.2.2.2 c k with
    | none => exact Or.inl rfl
    | some q => exact Or.inr ⟨q, rfl, he q e1⟩
  | k + 4, hv, _, _, _ => cases hv
def a_gf (tb : aT) (F : List (aN × aV)) (t ci k : Nat) : Option aV := cond (decide (a_sh[t]? = some (0, ci)) && (Nat.blt k (xh_N ci) && a_ty (xh_ty ci k) (a_ent tb (0, ci) t k).1))
  (match a_kf F (t, k) with
    | some a => cond (Nat.beq (a_ent tb (0, ci) t k).1 0 && Nat.beq a.1 0) (some a) none
    | none => a_tv (a_ent tb (0, ci) t k)) none
theorem a_sh_at {t b : Nat} {s : Nat × Nat} (hi : a_inv tb h) (hb : a_r h.1.length t b) (hs : a_sh[t]? = some s) : h.1[b]? = some s := by
  obtain ⟨h1, h2⟩ := hb
  have e : h.1[b]? = some h.1[b] := List.getElem?_eq_getElem h1
  have := (hi.1 b _ e).1
  rw [h2, hs] at this
  cases this
  exact e
theorem a_gf_ok {F : List (aN × aV)} {t ci k b : Nat} {a : aV} (hi : a_inv tb h) (hF : ∀ q ∈ F, a_ob q.1.1 = true ∧ a_v σ h.1.length q.2 (.int (xg 0 h.2.1 q.1.1 q.1.2))) (hb : a_r h.1.length t b) (he : a_gf tb F t ci k = some a) : h.1[b]? = some (0, ci) ∧ a_v σ h.1.length a (xh_get h b (xh_ty ci k) k) := by
  unfold a_gf at he
  obtain ⟨h1, h2⟩ := xw_c he
  obtain ⟨h1, h3⟩ := xw_bb h1
  obtain ⟨h3, h4⟩ := xw_bb h3
  have h1 := of_decide_eq_true h1
  have h3 := Nat.blt_eq.mp h3
  have hsh := a_sh_at hi hb h1
  refine ⟨hsh, ?_⟩
  have g := (hi.1 b _ hsh).2 k h3
  rw [hb.2] at g
  split at h2
  · rename_i a' ha
    obtain ⟨h5, h6⟩ := xw_c h2
    cases h6
    obtain ⟨h5, h6⟩ := xw_bb h5
    have h5 := xw_beq h5
    obtain ⟨o1, o2⟩ := hF _ (a_kf_mem ha)
    have eb := a_r_ob o1 hb
    subst eb
    rw [h5] at h4
    have e2 : xh_get h b (xh_ty ci k) k = .int (xg 0 h.2.1 b k) := by
      revert h4
      cases xh_ty ci k <;> intro h4 <;> first | rfl | (cases h4; done)
    rw [e2]
    exact o2
  · exact a_tv_ok g h2 h4
end XAS
