section XAK
/-- a block's head: its place, locals, stack, fields, a rank (a number plus multiples of names) -/
abbrev aH : Type := Nat × List (Nat × aV) × List aV × List (aN × aV) × Int × List (Int × aN)
def a_fo (a : aV) : aF := match a.2.2.2.1 with
  | some (n, c) => cond (Nat.beq a.1 0 && decide (c = 0)) [(n, a.2.1, a.2.2.1)] []
  | none => []
def a_hd (H : aH) : aS := (H.2.1, H.2.2.1, (H.2.1.flatMap fun q => a_fo q.2) ++ (H.2.2.2.1.flatMap fun q => a_fo q.2), H.2.2.2.1)
/-- the names' worth at a head -/
def a_sn (σ : aN → Int) (lv : List (Nat × Value)) (h : xh_H) : aN → Int := fun n => match n.1 with
  | 0 => cond (Nat.blt n.2 100) (match xl_get lv n.2 with
    | some (.int x) => x.toInt
    | _ => 0) (σ n)
  | c + 1 => (xg 0 h.2.1 c n.2).toInt
def a_per (n : aN) : Bool := Nat.beq n.1 0 && Nat.ble 100 n.2
theorem a_sn_per {σ : aN → Int} {lv : List (Nat × Value)} {h : xh_H} {n : aN} (hn : a_per n = true) : a_sn σ lv h n = σ n := by
  obtain ⟨h1, h2⟩ := xw_bb hn
  have h1 := xw_beq h1
  have h2 := xw_ble h2
  unfold a_sn
  rw [h1]
  dsimp only
  rw [show Nat.blt n.2 100 = false from by rw [Bool.eq_false_iff]; intro z; have := Nat.blt_eq.mp z; omega]
  rfl
def a_org (own : aN) (a b : Option (aN × Int)) : Bool := match b with
  | none => true
  | some (n, c) => decide (c = 0) && (a_nq n own || (a_per n && (match a with
    | some (m, e) => a_nq m n && decide (e = 0)
    | none => false)))
/-- a value fits another's bounds -/
def a_sub (E : aF) (own : aN) (a b : aV) : Bool := match b.1 with
  | 0 => Nat.beq a.1 0 && (decide (b.2.1 ≤ (a_bd E a).1) && (decide ((a_bd E a).2 ≤ b.2.2.1) && (a_org own a.2.2.2.1 b.2.2.2.1 && (b.2.2.2.2.1.isEmpty && b.2.2.2.2.2.isEmpty))))
  | 1 => Nat.beq a.1 1 && (decide (b.2.1 ≤ a.2.1) && decide (a.2.2.1 ≤ b.2.2.1))
  | 2 => Nat.beq a.1 2 && decide (a.2.1 = b.2.1)
  | 3 => (Nat.beq a.1 2 || Nat.beq a.1 3) && decide (a.2.1 = b.2.1)
  | 4 => Nat.beq a.1 4 && decide (a.2.1 = b.2.1)
  | _ => false
theorem a_sub_ok {σ σ' : aN → Int} {E : aF} {own : aN} {a b : aV} {n : Nat} {v : Value} (hE : a_f σ E) (he : a_sub E own a b = true) (h : a_v σ n a v) (ho : ∀ x, v = .int x → b.2.2.2.1 = some (own, 0) → σ' own = x.toInt) (hp : ∀ m, a_per m = true → σ' m = σ m) : a_v σ' n b v := by
  obtain ⟨bk, blo, bhi, borg, bt, bf⟩ := b
  unfold a_sub at he
  dsimp only at he ho
  match bk, he with
  | 0, he =>
    obtain ⟨u1, w1⟩ := xw_bb he
    obtain ⟨u2, w2⟩ := xw_bb w1
    obtain ⟨u3, w3⟩ := xw_bb w2
    obtain ⟨h4, w4⟩ := xw_bb w3
    obtain ⟨h5, h6⟩ := xw_bb w4
    clear w1 w2 w3 w4
    have h1 := xw_beq u1
    have h2 := of_decide_eq_true u2
    have h3 := of_decide_eq_true u3
    unfold a_v at h
    rw [h1] at h
    obtain ⟨x, rfl, hx⟩ := h
    have hbd := a_bd_ok hE hx
    have e5 : bt = [] := List.isEmpty_iff.mp h5
    have e6 : bf = [] := List.isEmpty_iff.mp h6
    subst e5
    subst e6
    refine ⟨x, rfl, ?_, ?_, ?_, fun _ q hq => (by cases hq), fun _ q hq => (by cases hq)⟩
    · dsimp only; omega
    · dsimp only; omega
    · intro m c e
      dsimp only at e
      subst e
      unfold a_org at h4
      dsimp only at h4
      obtain ⟨g1, g2⟩ := xw_bb h4
      have g1 := of_decide_eq_true g1
      subst g1
      rw [Bool.or_eq_true] at g2
      rcases g2 with g2 | g2
      · have e := a_nq_ok g2
        subst e
        rw [ho x rfl rfl]
        omega
      · obtain ⟨g2, g3⟩ := xw_bb g2
        split at g3
        · rename_i m2 e2 ea
          obtain ⟨g3, g4⟩ := xw_bb g3
          have g3 := a_nq_ok g3
          have g4 := of_decide_eq_true g4
          subst g3
          subst g4
          rw [hp _ g2]
          exact hx.2.2.1 _ _ ea
        · cases g3
  | 1, he =>
    obtain ⟨h1, h2⟩ := xw_bb he
    obtain ⟨h2, h3⟩ := xw_bb h2
    have h1 := xw_beq h1
    have h2 := of_decide_eq_true h2
    have h3 := of_decide_eq_true h3
    unfold a_v at h
    rw [h1] at h
    obtain ⟨x, rfl, g1, g2⟩ := h
    refine ⟨x, rfl, ?_, ?_⟩
    · dsimp only; omega
    · dsimp only; omega
  | 2, he =>
    obtain ⟨h1, h2⟩ := xw_bb he
    have h1 := xw_beq h1
    have h2 := of_decide_eq_true h2
    unfold a_v at h
    rw [h1] at h
    obtain ⟨q, rfl, g⟩ := h
    refine ⟨q, rfl, ?_⟩
    rw [← h2]
    exact g
  | 3, he =>
    obtain ⟨h1, h2⟩ := xw_bb he
    have h2 := of_decide_eq_true h2
    rw [Bool.or_eq_true] at h1
    unfold a_v at h
    rcases h1 with h1 | h1
    · have h1 := xw_beq h1
      rw [h1] at h
      obtain ⟨q, rfl, g⟩ := h
      refine Or.inr ⟨q, rfl, ?_⟩
      rw [← h2]
      exact g
    · have h1 := xw_beq h1
      rw [h1] at h
      rcases h with rfl | ⟨q, rfl, g⟩
      · exact Or.inl rfl
      · refine Or.inr ⟨q, rfl, ?_⟩
        rw [← h2]
        exact g
  | 4, he =>
    obtain ⟨h1, h2⟩ := xw_bb he
    have h1 := xw_beq h1
    have h2 := of_decide_eq_true h2
    unfold a_v at h
    rw [h1] at h
    show v = .float (UInt32.ofNat blo.toNat)
    rw [← h2]
    exact h
  | k + 5, he => cases he
def a_nn : aN := (0, 99)
/-- values one by one, without names -/
def a_ss (E : aF) : List aV → List aV → Bool
  | [], [] => true
  | a :: S, b :: U => a_sub E a_nn a b && ((match b.2.2.2.1 with
    | none => true
    | some (n, _) => !(a_nq n a_nn)) && a_ss E S U)
  | _, _ => false
theorem a_ss_ok {σ σ' : aN → Int} {E : aF} {n : Nat} (hE : a_f σ E) (hp : ∀ m, a_per m = true → σ' m = σ m) : ∀ {S U : List aV} {V : List Value}, a_ss E S U = true → a_st σ n S V → a_st σ' n U V := by
  intro S
  induction S with
  | nil =>
    intro U V he h
    cases U with
    | nil => cases V with
      | nil => trivial
      | cons v V => cases h
    | cons b U => cases he
  | cons a S ih =>
    intro U V he h
    cases U with
    | nil => cases he
    | cons b U =>
      cases V with
      | nil => cases h
      | cons v V =>
        obtain ⟨h1, h2⟩ := xw_bb he
        obtain ⟨h2, h3⟩ := xw_bb h2
        refine ⟨a_sub_ok hE h1 h.1 (fun x _ e => ?_) hp, ih h3 h.2⟩
        rw [e] at h2
        dsimp only at h2
        rw [show a_nq a_nn a_nn = true from rfl] at h2
        cases h2
def a_tf (tb : aT) (c k : Nat) : Option aV := match a_sh[c]? with
  | some (0, ci) => cond (Nat.blt k (xh_N ci) && Nat.beq (a_ent tb (0, ci) c k).1 0) (some (a_I (a_ent tb (0, ci) c k).2.1 (a_ent tb (0, ci) c k).2.2)) none
  | _ => none
/-- a field's value now -/
def a_cf (tb : aT) (A : aS) (q : aN) : Option aV := match a_kf A.2.2.2 q with
  | some a => some a
  | none => a_tf tb q.1 q.2
variable {tb : aT} {σ : aN → Int} {h0 : xh_H} {md : List (Nat × Nat)} {A : aS} {lv : List (Nat × Value)} {st : List Value} {h : xh_H}
theorem a_ob_at {c : Nat} (hc : a_ob c = true) (hi : a_inv tb h) (hn : 72 ≤ h.1.length) : a_r h.1.length c c := by
  obtain ⟨h1, -, -⟩ := a_ob_lt c hc
  exact ⟨by omega, a_tg_lt h1⟩
theorem a_cf_ok {q : aN} {a : aV} (hs : a_s tb σ h0 md A lv st h) (hn : 72 ≤ h.1.length) (ho : a_ob q.1 = true) (he : a_cf tb A q = some a) : a_v σ h.1.length a (.int (xg 0 h.2.1 q.1 q.2)) := by
  obtain ⟨i1, i2, i3, i4, i5, i6, i7⟩ := hs
  unfold a_cf at he
  split at he
  · rename_i a' ha
    cases he
    exact (i6 _ (a_kf_mem ha)).2
  · unfold a_tf at he
    split at he
    · rename_i ci hsh
      obtain ⟨g1, g2⟩ := xw_c he
      cases g2
      obtain ⟨g1, g2⟩ := xw_bb g1
      have g1 := Nat.blt_eq.mp g1
      have g2 := xw_beq g2
      have hat := a_ob_at ho i1 hn
      have k1 := a_sh_at i1 hat hsh
      have k2 := (i1.1 q.1 _ k1).2 q.2 g1
      rw [hat.2] at k2
      unfold a_e at k2
      rw [g2] at k2
      exact a_vi rfl (a_I_ok k2.1 k2.2)
    · cases he
/-- a frame comes to a head -/
def a_en (tb : aT) (A : aS) (H : aH) : Bool := (H.2.1.all fun q => Nat.blt q.1 100 && (match a_lk A.1 q.1 with
    | some a => a_sub A.2.2.1 (0, q.1) a q.2
    | none => false)) && (a_ss A.2.2.1 A.2.1 H.2.2.1 && (H.2.2.2.1.all fun q => a_ob q.1.1 && (match a_cf tb A q.1 with
    | some a => a_sub A.2.2.1 (q.1.1 + 1, q.1.2) a q.2
    | none => false)))
theorem a_fo_ok {σ' : aN → Int} {n : Nat} {a : aV} {v : Value} (h : a_v σ' n a v) : a_f σ' (a_fo a) := by
  unfold a_fo
  split
  · rename_i m c e
    cases hc : (Nat.beq a.1 0 && decide (c = 0)) with
    | false => intro q hq; cases hq
    | true =>
      obtain ⟨h1, h2⟩ := xw_bb hc
      have h1 := xw_beq h1
      have h2 := of_decide_eq_true h2
      subst h2
      unfold a_v at h
      rw [h1] at h
      obtain ⟨x, rfl, g1, g2, g3, -⟩ := h
      have g3 := g3 m 0 e
      intro q hq
      simp only [cond_true, List.mem_singleton] at hq
      subst hq
      dsimp only
      omega
  · intro q hq; cases hq
theorem a_en_ok {H : aH} (hs : a_s tb σ h0 md A lv st h) (hn : 72 ≤ h.1.length) (he : a_en tb A H = true) : a_s tb (a_sn σ lv h) h0 md (a_hd H) lv st h := by
  have hs0 := hs
  obtain ⟨i1, i2, i3, i4, i5, i6, i7⟩ := hs0
  unfold a_en at he
  obtain ⟨h1, h2⟩ := xw_bb he
  obtain ⟨h2, h3⟩ := xw_bb h2
  have hp : ∀ m, a_per m = true → a_sn σ lv h m = σ m := fun m hm => a_sn_per hm
  have hL : ∀ q ∈ H.2.1, ∃ v, xl_get lv q.1 = some v ∧ a_v (a_sn σ lv h) h.1.length q.2 v := by
    intro q hq
    have g := List.all_eq_true.mp h1 q hq
    obtain ⟨g1, g2⟩ := xw_bb g
    split at g2
    · rename_i a ha
      obtain ⟨v, k1, k2⟩ := i3 _ (a_lk_mem ha)
      refine ⟨v, k1, a_sub_ok i5 g2 k2 (fun x e _ => ?_) hp⟩
      unfold a_sn
      dsimp only
      rw [g1, k1, e]
      rfl
    · cases g2
  have hF : ∀ q ∈ H.2.2.2.1, a_ob q.1.1 = true ∧ a_v (a_sn σ lv h) h.1.length q.2 (.int (xg 0 h.2.1 q.1.1 q.1.2)) := by
    intro q hq
    have g := List.all_eq_true.mp h3 q hq
    obtain ⟨g1, g2⟩ := xw_bb g
    refine ⟨g1, ?_⟩
    split at g2
    · rename_i a ha
      have k2 := a_cf_ok hs hn g1 ha
      refine a_sub_ok i5 g2 k2 (fun x e _ => ?_) hp
      cases e
      rfl
    · cases g2
  refine ⟨i1, i2, hL, a_ss_ok i5 hp h2 i4, ?_, hF, i7⟩
  intro p hpm
  rcases List.mem_append.mp hpm with g | g
  · obtain ⟨q, k1, k2⟩ := List.mem_flatMap.mp g
    obtain ⟨v, -, k3⟩ := hL q k1
    exact a_fo_ok k3 p k2
  · obtain ⟨q, k1, k2⟩ := List.mem_flatMap.mp g
    exact a_fo_ok (hF q k1).2 p k2
end XAK
