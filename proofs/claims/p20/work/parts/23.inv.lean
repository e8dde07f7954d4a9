section XAI
/-- the shapes of the first 72 cells -/
def a_sh : List (Nat × Nat) := [(0, 9), (0, 8), (2, 640), (0, 4), (0, 3), (1, 400), (1, 400), (1, 64), (0, 6), (1, 16), (1, 16), (0, 7), (4, 64), (5, 8), (0, 2), (1, 924), (1, 924), (1, 12), (1, 14), (1, 12), (4, 13), (0, 5), (1, 12), (1, 12), (1, 12), (1, 12), (1, 12), (1, 12), (0, 0), (1, 7), (1, 84), (1, 7), (1, 7), (1, 7), (1, 896), (0, 1), (1, 60), (1, 60), (3, 60), (0, 10), (1, 640), (3, 53248), (3, 53248), (3, 65536), (3, 32768), (3, 4096), (1, 53248), (1, 13), (1, 13), (1, 13), (4, 16), (1, 8), (1, 8), (3, 4096), (1, 12), (1, 12), (1, 12), (1, 12), (1, 13), (1, 924), (1, 924), (3, 144), (1, 84), (3, 49), (3, 49), (1, 56), (1, 7), (1, 7), (1, 60), (1, 60), (3, 60), (4, 1)]
abbrev aT : Type := List (List (Nat × Int × Int))
def a_e (h : xh_H) (c k : Nat) (e : Nat × Int × Int) : Prop := match e.1 with
  | 0 => e.2.1 ≤ (xg 0 h.2.1 c k).toInt ∧ (xg 0 h.2.1 c k).toInt ≤ e.2.2
  | 1 => e.2.1 ≤ (xg 0 h.2.2.1 c k).toInt ∧ (xg 0 h.2.2.1 c k).toInt ≤ e.2.2
  | 2 => ∃ q, xg none h.2.2.2 c k = some q ∧ a_r h.1.length e.2.1.toNat q
  | 3 => ∀ q, xg none h.2.2.2 c k = some q → a_r h.1.length e.2.1.toNat q
  | _ => True
def a_sz (s : Nat × Nat) : Nat := match s.1 with
  | 0 => xh_N s.2
  | _ => s.2
def a_ent (tb : aT) (s : Nat × Nat) (t k : Nat) : Nat × Int × Int := match s.1 with
  | 0 => (tb.getD t []).getD k (9, 0, 0)
  | _ => (tb.getD t []).getD 0 (9, 0, 0)
/-- THE HEAP KEEPS ITS BOUNDS -/
def a_inw (tb : aT) (h : xh_H) : Prop := ∀ c s, h.1[c]? = some s → a_sh[a_tg c]? = some s ∧ ∀ k, k < a_sz s → a_e h c k (a_ent tb s (a_tg c) k)
/-- more members never make it less -/
def a_mono (f : Nat → Int) (n : Nat) : Prop := ∀ s t, s < n → t < n → s &&& t = s → f s ≤ f t
/-- a bit of the class's table of who is at least as strong -/
def a_ge (h : xh_H) (a b : Nat) : Prop := (xg 0 h.2.1 19 a).toInt.toNat.testBit b = true
/-- what holds between fields and elements: Powers.full of Powers.members; the reference's statutes and its row; who is at least as strong as whom -/
def a_J (tb : aT) (h : xh_H) : Prop := (xg 0 h.2.1 14 8).toInt = ((2 ^ (xg 0 h.2.1 14 7).toInt.toNat : Nat) : Int) - 1 ∧ (∀ k : Nat, (k : Int) < (xg 0 h.2.1 39 33).toInt → a_mono (fun s => (xg 0 h.2.1 44 (4096 * k + s)).toInt) 4096) ∧ a_mono (fun s => (xg 0 h.2.1 53 s).toInt) (xg 0 h.2.1 39 35).toInt.toNat ∧ (tb.length = 72 → ∀ a b c : Nat, (a : Int) < (xg 0 h.2.1 14 7).toInt → (b : Int) < (xg 0 h.2.1 14 7).toInt → (c : Int) < (xg 0 h.2.1 14 7).toInt → a_ge h a b → a_ge h b c → a_ge h a c)
/-- the places that it speaks of: only methods proved by hand write there -/
def a_jc (c k : Nat) : Bool := cond (Nat.beq c 14) (Nat.beq k 7 || Nat.beq k 8) (cond (Nat.beq c 39) (Nat.beq k 33 || Nat.beq k 35) (Nat.beq c 44 || (Nat.beq c 53 || Nat.beq c 19)))
theorem a_J_of {tb : aT} {h h' : xh_H} (hj : a_J tb h) (he : ∀ c k, a_jc c k = true → xg 0 h'.2.1 c k = xg 0 h.2.1 c k) : a_J tb h' := by
  obtain ⟨h1, h2, h3, h4⟩ := hj
  refine ⟨?_, ?_, ?_, ?_⟩
  · rw [he 14 8 rfl, he 14 7 rfl]
    exact h1
  · intro k hk s t hs ht hst
    rw [he 39 33 rfl] at hk
    have g := h2 k hk s t hs ht hst
    dsimp only at g ⊢
    rw [he 44 (4096 * k + s) rfl, he 44 (4096 * k + t) rfl]
    exact g
  · intro s t hs ht hst
    rw [he 39 35 rfl] at hs ht
    have g := h3 s t hs ht hst
    dsimp only at g ⊢
    rw [he 53 s rfl, he 53 t rfl]
    exact g
  · intro tl a b c ha hb hc hab hbc
    rw [he 14 7 rfl] at ha hb hc
    unfold a_ge at hab hbc ⊢
    rw [he 19 _ rfl] at hab hbc ⊢
    exact h4 tl a b c ha hb hc hab hbc
theorem a_jc_ar {b t k : Nat} (h14 : b ≠ 14) (h39 : b ≠ 39) (hb : b < 72 → b = t) (hj : a_jc t 0 = false) : a_jc b k = false := by
  have nb : ∀ {x y : Nat}, x ≠ y → Nat.beq x y = false := by
    intro x y h
    rw [Bool.eq_false_iff]
    intro z
    exact h (Nat.eq_of_beq_eq_true z)
  by_cases h : b < 72
  · have e := hb h
    subst e
    unfold a_jc at hj ⊢
    rw [nb h14, nb h39] at hj ⊢
    exact hj
  · unfold a_jc
    rw [nb h14, nb h39, nb (show b ≠ 44 by omega), nb (show b ≠ 53 by omega), nb (show b ≠ 19 by omega)]
    rfl
def a_inv (tb : aT) (h : xh_H) : Prop := a_inw tb h ∧ a_J tb h
/-- a cell of which there is one, an object -/
def a_ob (c : Nat) : Bool := match a_sh[c]? with
  | some (0, ci) => !(Nat.beq ci 7)
  | _ => false
set_option maxRecDepth 10000 in
theorem a_ob_lt : ∀ c, a_ob c = true → c < 72 ∧ c ≠ 11 ∧ c ≠ 12 := by
  intro c h
  by_cases hc : c < 72
  · refine ⟨hc, ?_, ?_⟩
    · intro e; subst e; revert h; decide
    · intro e; subst e; revert h; decide
  · unfold a_ob at h
    rw [List.getElem?_eq_none (by show 72 ≤ c; omega)] at h
    cases h
theorem a_tg_lt {q : Nat} (h : q < 72) : a_tg q = q := by
  unfold a_tg
  rw [show Nat.blt q 72 = true from Nat.blt_eq.mpr h]
  rfl
theorem a_tg_ge {q : Nat} (h : ¬ q < 72) : a_tg q = 11 ∨ a_tg q = 12 := by
  unfold a_tg
  rw [show Nat.blt q 72 = false from by rw [Bool.eq_false_iff]; intro z; exact h (Nat.blt_eq.mp z)]
  cases Nat.beq (q % 2) 0
  · exact Or.inr rfl
  · exact Or.inl rfl
theorem a_r_ob {n t q : Nat} (ht : a_ob t = true) (h : a_r n t q) : q = t := by
  obtain ⟨h1, h2, h3⟩ := a_ob_lt t ht
  by_cases hq : q < 72
  · rw [← h.2, a_tg_lt hq]
  · rcases a_tg_ge hq with e | e
    · exact absurd (h.2.symm.trans e) h2
    · exact absurd (h.2.symm.trans e) h3
/-- cells whose ints a frame speaks of: all of the first 72 but statutes and bits -/
def a_fz (c : Nat) : Bool := Nat.blt c 72 && (!(Nat.beq c 11) && !(Nat.beq c 12))
def a_key (c k : Nat) : Nat := cond (a_ob c) k 0
theorem a_ob_fz {c : Nat} (h : a_ob c = true) : a_fz c = true := by
  obtain ⟨h1, h2, h3⟩ := a_ob_lt c h
  unfold a_fz
  rw [Nat.blt_eq.mpr h1, show Nat.beq c 11 = false from by rw [Bool.eq_false_iff]; intro z; exact h2 (Nat.eq_of_beq_eq_true z), show Nat.beq c 12 = false from by rw [Bool.eq_false_iff]; intro z; exact h3 (Nat.eq_of_beq_eq_true z)]
  rfl
theorem a_fz_lt {c : Nat} (h : a_fz c = true) : c < 72 := by
  obtain ⟨h1, -⟩ := xw_bb h
  exact Nat.blt_eq.mp h1
theorem a_key_ob {c k : Nat} (h : a_ob c = true) : a_key c k = k := by
  unfold a_key
  rw [h]
  rfl
/-- what holds of a frame -/
def a_s (tb : aT) (σ : aN → Int) (h0 : xh_H) (md : List (Nat × Nat)) (A : aS) (lv : List (Nat × Value)) (st : List Value) (h : xh_H) : Prop :=
  a_inv tb h ∧ h.1 = h0.1 ∧ (∀ q ∈ A.1, ∃ v, xl_get lv q.1 = some v ∧ a_v σ h.1.length q.2 v) ∧ a_st σ h.1.length A.2.1 st ∧ a_f σ A.2.2.1 ∧ (∀ q ∈ A.2.2.2, a_ob q.1.1 = true ∧ a_v σ h.1.length q.2 (.int (xg 0 h.2.1 q.1.1 q.1.2))) ∧ ∀ c k, a_fz c = true → (c, a_key c k) ∉ md → xg 0 h.2.1 c k = xg 0 h0.2.1 c k
def a_lk : List (Nat × aV) → Nat → Option aV
  | [], _ => none
  | q :: t, i => cond (Nat.beq q.1 i) (some q.2) (a_lk t i)
theorem a_lk_mem {L : List (Nat × aV)} {i : Nat} {a : aV} (h : a_lk L i = some a) : (i, a) ∈ L := by
  induction L with
  | nil => cases h
  | cons q t ih =>
    unfold a_lk at h
    cases hb : Nat.beq q.1 i with
    | true =>
      rw [hb] at h
      have h1 := Nat.eq_of_beq_eq_true hb
      cases h
      subst h1
      exact List.mem_cons_self
    | false => rw [hb] at h; exact List.mem_cons_of_mem _ (ih h)
def a_kf (L : List (aN × aV)) (n : aN) : Option aV := match L with
  | [] => none
  | q :: t => cond (a_nq q.1 n) (some q.2) (a_kf t n)
theorem a_kf_mem {n : aN} {a : aV} : ∀ {L : List (aN × aV)}, a_kf L n = some a → (n, a) ∈ L := by
  intro L
  induction L with
  | nil => intro h; cases h
  | cons q t ih =>
    intro h
    unfold a_kf at h
    cases hb : a_nq q.1 n with
    | true =>
      rw [hb] at h
      have h1 := a_nq_ok hb
      cases h
      subst h1
      exact List.mem_cons_self
    | false => rw [hb] at h; exact List.mem_cons_of_mem _ (ih h)
def a_set (L : List (Nat × aV)) (i : Nat) (a : aV) : List (Nat × aV) := (i, a) :: L.filter (fun q => !(Nat.beq q.1 i) && !(Nat.beq (q.1 + 1) i && Nat.beq q.2.1 1))
theorem xl_get_f {p : Nat × Value → Bool} {j : Nat} {v : Value} (hp : p (j, v) = true) : ∀ {lv : List (Nat × Value)}, xl_get lv j = some v → xl_get (lv.filter p) j = some v := by
  intro lv
  induction lv with
  | nil => intro h; cases h
  | cons q t ih =>
    intro h
    unfold xl_get at h
    cases hb : Nat.beq q.1 j with
    | true =>
      rw [hb] at h
      cases h
      have e := Nat.eq_of_beq_eq_true hb
      have e2 : q = (j, q.2) := Prod.ext e rfl
      have hq : p q = true := by rw [e2]; exact hp
      rw [List.filter_cons_of_pos hq]
      unfold xl_get
      rw [hb]
      rfl
    | false =>
      rw [hb] at h
      cases hq : p q with
      | true =>
        rw [List.filter_cons_of_pos hq]
        unfold xl_get
        rw [hb]
        exact ih h
      | false =>
        rw [List.filter_cons_of_neg (by rw [hq]; decide)]
        exact ih h
theorem a_v_cat {σ : aN → Int} {n : Nat} {a : aV} {v : Value} (h : a_v σ n a v) (hk : Nat.beq a.1 1 = false) : v.category = 1 := by
  unfold a_v at h
  split at h
  · obtain ⟨x, rfl, _⟩ := h; rfl
  · rename_i e; rw [e] at hk; cases hk
  · obtain ⟨q, rfl, _⟩ := h; rfl
  · rcases h with rfl | ⟨q, rfl, _⟩ <;> rfl
  · rw [h]; rfl
theorem a_set_ok {σ : aN → Int} {n : Nat} {L : List (Nat × aV)} {lv : List (Nat × Value)} {i : Nat} {a : aV} {v : Value} (hL : ∀ q ∈ L, ∃ v, xl_get lv q.1 = some v ∧ a_v σ n q.2 v) (hv : a_v σ n a v) : ∀ q ∈ a_set L i a, ∃ v', xl_get (xl_1 lv i v) q.1 = some v' ∧ a_v σ n q.2 v' := by
  intro q hq
  rcases List.mem_cons.mp hq with rfl | hq
  · refine ⟨v, ?_, hv⟩
    unfold xl_1 xl_get
    rw [Nat.beq_refl]
    rfl
  · obtain ⟨hq, hp⟩ := List.mem_filter.mp hq
    obtain ⟨w, h1, h2⟩ := hL q hq
    refine ⟨w, ?_, h2⟩
    rw [Bool.and_eq_true, Bool.not_eq_true', Bool.not_eq_true'] at hp
    unfold xl_1 xl_get
    have hb : Nat.beq i q.1 = false := by
      rw [Bool.eq_false_iff]
      intro z
      have e := Nat.eq_of_beq_eq_true z
      rw [← e, Nat.beq_refl] at hp
      cases hp.1
    rw [hb]
    refine xl_get_f ?_ h1
    have e1 : (q.1 == i) = false := by
      rw [beq_eq_false_iff_ne]
      intro e
      rw [e, Nat.beq_refl] at hp
      cases hp.1
    dsimp only
    rw [e1]
    cases hc : (q.1 + 1 == i) with
    | false => rfl
    | true =>
      have e2 : Nat.beq (q.1 + 1) i = true := by rw [beq_iff_eq] at hc; rw [hc]; exact Nat.beq_refl i
      have hk : Nat.beq q.2.1 1 = false := by
        have := hp.2
        rw [e2] at this
        exact this
      rw [a_v_cat h2 hk]
      rfl
end XAI
