section XAM
/-- a contract: the method's number, how deep it calls, its arguments' bounds, its answer's, which fields it may write -/
abbrev aP : Type := List ((Nat × Nat) × Int × Int)
abbrev aC : Type := Nat × Nat × List aV × List (Option aV × aP) × List (Nat × Nat) × aP
/-- fields within bounds -/
def a_fp (P : aP) (h : xh_H) : Prop := ∀ q ∈ P, a_ob q.1.1 = true ∧ q.2.1 ≤ (xg 0 h.2.1 q.1.1 q.1.2).toInt ∧ (xg 0 h.2.1 q.1.1 q.1.2).toInt ≤ q.2.2
def a_fk (tb : aT) (A : aS) (P : aP) : Bool := P.all fun q => a_ob q.1.1 && (match a_cf tb A q.1 with
  | some a => Nat.beq a.1 0 && (decide (q.2.1 ≤ (a_bd A.2.2.1 a).1) && decide ((a_bd A.2.2.1 a).2 ≤ q.2.2))
  | none => false)
theorem a_fk_ok {tb : aT} {σ : aN → Int} {h0 : xh_H} {md : List (Nat × Nat)} {A : aS} {lv : List (Nat × Value)} {st : List Value} {h : xh_H} {P : aP} (hs : a_s tb σ h0 md A lv st h) (hn : 72 ≤ h.1.length) (he : a_fk tb A P = true) : a_fp P h := by
  intro q hq
  obtain ⟨g1, g2⟩ := xw_bb (List.all_eq_true.mp he q hq)
  refine ⟨g1, ?_⟩
  split at g2
  · rename_i a ha
    obtain ⟨g2, g3⟩ := xw_bb g2
    obtain ⟨g3, g4⟩ := xw_bb g3
    have g2 := xw_beq g2
    have g3 := of_decide_eq_true g3
    have g4 := of_decide_eq_true g4
    have k := a_cf_ok hs hn g1 ha
    unfold a_v at k
    rw [g2] at k
    obtain ⟨x, e, k⟩ := k
    cases e
    have b := a_bd_ok hs.2.2.2.2.1 k
    omega
  · cases g2
/-- fields' bounds as a frame's -/
def a_pf2 (P : aP) : List (aN × aV) := P.map fun q => (q.1, (0, q.2.1, q.2.2, none, [], []))
theorem a_pf2_ok {σ : aN → Int} {n : Nat} {P : aP} {h : xh_H} (hP : a_fp P h) : ∀ q ∈ a_pf2 P, a_ob q.1.1 = true ∧ a_v σ n q.2 (.int (xg 0 h.2.1 q.1.1 q.1.2)) := by
  intro q hq
  obtain ⟨p, hp, rfl⟩ := List.mem_map.mp hq
  obtain ⟨h1, h2, h3⟩ := hP p hp
  exact ⟨h1, a_vi rfl (a_I_ok h2 h3)⟩
/-- arguments by their slots -/
def a_sl : Nat → List aV → List (Nat × aV)
  | _, [] => []
  | i, a :: t => (i, a) :: a_sl (i + cond (Nat.beq a.1 1) 2 1) t
/-- the names' worth at a call: its arguments -/
def a_sg (vs : List Value) : aN → Int := fun n => match xl_get (lv_args 0 vs) (n.2 - 100) with
  | some (.int x) => x.toInt
  | _ => 0
/-- one of the ways in which a method may answer: its value, and bounds of fields then -/
def a_rok (σe : aN → Int) (n : Nat) (t : Option aV × aP) (v : Option Value) (h' : xh_H) : Prop := (match t.1 with
    | none => v = none
    | some a => ∃ w, v = some w ∧ a_v σe n a w) ∧ a_fp t.2 h'
def a_post (tb : aT) (h0 : xh_H) (md : List (Nat × Nat)) (σe : aN → Int) (ret : List (Option aV × aP)) (v : Option Value) (h' : xh_H) : Prop :=
  a_inv tb h' ∧ h'.1 = h0.1 ∧ (∃ t ∈ ret, a_rok σe h0.1.length t v h') ∧ ∀ c k, a_fz c = true → (c, a_key c k) ∉ md → xg 0 h'.2.1 c k = xg 0 h0.2.1 c k
/-- A METHOD KEEPS ITS CONTRACT -/
def a_spec (tb : aT) (C : aC) : Prop := ∀ (d : Nat) (mi : xm_M) (vs : List Value) (h : xh_H) (σ : aN → Int), C.2.1 ≤ d → xM C.1 = some mi → a_inv tb h → 72 ≤ h.1.length → a_st σ h.1.length C.2.2.1 vs → a_fp C.2.2.2.2.2 h → ∃ v h', xR none d C.1 mi (0, lv_args 0 vs, [], h, 0, 0) (v, h', 0, 0) ∧ a_post tb h C.2.2.2.2.1 (a_sg vs) C.2.2.2.1 v h'
def a_cat (S : List aV) : Nat := (S.map fun a => cond (Nat.beq a.1 1) 2 1).sum
theorem a_cat_ok {σ : aN → Int} {n : Nat} : ∀ {S : List aV} {V : List Value}, a_st σ n S V → xm_cat V = a_cat S := by
  intro S
  induction S with
  | nil => intro V h; cases V with
    | nil => rfl
    | cons v V => cases h
  | cons a S ih =>
    intro V h
    cases V with
    | nil => cases h
    | cons v V =>
      obtain ⟨h1, h2⟩ := h
      have e := ih h2
      show v.category + xm_cat V = cond (Nat.beq a.1 1) 2 1 + a_cat S
      rw [e]
      cases hb : Nat.beq a.1 1 with
      | false => rw [a_v_cat h1 hb]; rfl
      | true =>
        have hb := xw_beq hb
        unfold a_v at h1
        rw [hb] at h1
        obtain ⟨x, rfl, _⟩ := h1
        rfl
theorem a_st_len {σ : aN → Int} {n : Nat} : ∀ {S : List aV} {V : List Value}, a_st σ n S V → V.length = S.length := by
  intro S
  induction S with
  | nil => intro V h; cases V with
    | nil => rfl
    | cons v V => cases h
  | cons a S ih =>
    intro V h
    cases V with
    | nil => cases h
    | cons v V => exact congrArg (· + 1) (ih h.2)
theorem a_st_app {σ : aN → Int} {n : Nat} {U : List aV} {Y : List Value} : ∀ {S : List aV} {V : List Value}, a_st σ n S V → a_st σ n U Y → a_st σ n (S ++ U) (V ++ Y) := by
  intro S
  induction S with
  | nil => intro V h g; cases V with
    | nil => exact g
    | cons v V => cases h
  | cons a S ih =>
    intro V h g
    cases V with
    | nil => cases h
    | cons v V => exact ⟨h.1, ih h.2 g⟩
theorem a_st_rev {σ : aN → Int} {n : Nat} : ∀ {S : List aV} {V : List Value}, a_st σ n S V → a_st σ n S.reverse V.reverse := by
  intro S
  induction S with
  | nil => intro V h; cases V with
    | nil => trivial
    | cons v V => cases h
  | cons a S ih =>
    intro V h
    cases V with
    | nil => cases h
    | cons v V =>
      rw [List.reverse_cons, List.reverse_cons]
      exact a_st_app (ih h.2) ⟨h.1, trivial⟩
theorem a_st_td {σ : aN → Int} {n : Nat} : ∀ (k : Nat) {S : List aV} {V : List Value}, a_st σ n S V → a_st σ n (S.take k) (V.take k) ∧ a_st σ n (S.drop k) (V.drop k) := by
  intro k
  induction k with
  | zero => intro S V h; exact ⟨trivial, h⟩
  | succ k ih =>
    intro S V h
    cases S with
    | nil => cases V with
      | nil => exact ⟨trivial, trivial⟩
      | cons v V => cases h
    | cons a S =>
      cases V with
      | nil => cases h
      | cons v V => exact ⟨⟨h.1, (ih h.2).1⟩, (ih h.2).2⟩
/-- slots and arguments -/
theorem a_sl_ok {σ : aN → Int} {n : Nat} : ∀ {S : List aV} {V : List Value} {i : Nat}, a_st σ n S V → ∀ q ∈ a_sl i S, ∃ v, xl_get (lv_args i V) q.1 = some v ∧ a_v σ n q.2 v := by
  intro S
  induction S with
  | nil => intro V i h q hq; cases hq
  | cons a S ih =>
    intro V i h q hq
    cases V with
    | nil => cases h
    | cons v V =>
      have hc : v.category = cond (Nat.beq a.1 1) 2 1 := by
        cases hb : Nat.beq a.1 1 with
        | false => exact a_v_cat h.1 hb
        | true =>
          have hb := xw_beq hb
          have h1 := h.1
          unfold a_v at h1
          rw [hb] at h1
          obtain ⟨x, rfl, _⟩ := h1
          rfl
      rcases List.mem_cons.mp hq with rfl | hq
      · refine ⟨v, ?_, h.1⟩
        unfold lv_args xl_get
        rw [Nat.beq_refl]
        rfl
      · obtain ⟨w, g1, g2⟩ := ih (i := i + cond (Nat.beq a.1 1) 2 1) h.2 q hq
        have hge : ∀ {S : List aV} {j : Nat}, ∀ q ∈ a_sl j S, j ≤ q.1 := by
          intro S
          induction S with
          | nil => intro j q hq; cases hq
          | cons b S ihs =>
            intro j q hq
            rcases List.mem_cons.mp hq with rfl | hq
            · exact Nat.le_refl _
            · exact Nat.le_trans (Nat.le_add_right _ _) (ihs q hq)
        have hlt := hge q hq
        refine ⟨w, ?_, g2⟩
        unfold lv_args xl_get
        have hb : Nat.beq i q.1 = false := by
          rw [Bool.eq_false_iff]
          intro z
          have := Nat.eq_of_beq_eq_true z
          cases hbb : Nat.beq a.1 1 <;> rw [hbb] at hlt <;> simp only [cond_true, cond_false] at hlt <;> omega
        rw [hb, hc]
        have e : (if (cond (Nat.beq a.1 1) 2 1) = 2 then i + 2 else i + 1) = i + cond (Nat.beq a.1 1) 2 1 := by cases Nat.beq a.1 1 <;> rfl
        show xl_get (lv_args (if (cond (Nat.beq a.1 1) 2 1) = 2 then i + 2 else i + 1) V) q.1 = some w
        rw [e]
        exact g1
/-- facts of the arguments, in the caller's words -/
def a_trf (L : List (Nat × aV)) (F : aF) : aF := F.flatMap fun q => cond (a_per q.1) (match a_lk L (q.1.2 - 100) with
  | some a => cond (Nat.beq a.1 0) ((match a.2.2.2.1 with
    | some (m, c) => [(m, q.2.1 - c, q.2.2 - c)]
    | none => []) ++ cond (decide ((0 : Int) < q.2.1) || decide (q.2.2 < (0 : Int))) a.2.2.2.2.1 (cond (decide ((0 : Int) = q.2.1) && decide (q.2.2 = (0 : Int))) a.2.2.2.2.2 [])) []
  | none => []) []
theorem a_trf_ok {σ : aN → Int} {n : Nat} {S : List aV} {V : List Value} {F : aF} (h : a_st σ n S V) (hF : a_f (a_sg V) F) : a_f σ (a_trf (a_sl 0 S) F) := by
  intro p hp
  obtain ⟨q, hq, hp⟩ := List.mem_flatMap.mp hp
  cases hb : a_per q.1 with
  | false => rw [hb] at hp; cases hp
  | true =>
    rw [hb] at hp
    dsimp only [cond_true] at hp
    split at hp
    · rename_i a ha
      cases hk : Nat.beq a.1 0 with
      | false => rw [hk] at hp; cases hp
      | true =>
        rw [hk] at hp
        dsimp only [cond_true] at hp
        obtain ⟨v, g1, g2⟩ := a_sl_ok (i := 0) h _ (a_lk_mem ha)
        unfold a_v at g2
        rw [xw_beq hk] at g2
        obtain ⟨x, rfl, g2⟩ := g2
        have e1 : a_sg V q.1 = x.toInt := by
          unfold a_sg
          rw [g1]
        have e3 := hF q hq
        rw [e1] at e3
        have e0 : (0 : Int32).toInt = 0 := rfl
        rcases List.mem_append.mp hp with hp | hp
        · split at hp
          · rename_i m c hc
            rw [List.mem_singleton] at hp
            subst hp
            have e2 := g2.2.2.1 m c hc
            dsimp only
            omega
          · cases hp
        · cases hz : (decide ((0 : Int) < q.2.1) || decide (q.2.2 < (0 : Int))) with
          | true =>
            rw [hz] at hp
            rw [Bool.or_eq_true, decide_eq_true_eq, decide_eq_true_eq] at hz
            refine g2.2.2.2.1 (fun e => ?_) p hp
            rw [e] at e3
            omega
          | false =>
            rw [hz] at hp
            dsimp only [cond_false] at hp
            cases hy : (decide ((0 : Int) = q.2.1) && decide (q.2.2 = (0 : Int))) with
            | true =>
              rw [hy] at hp
              rw [Bool.and_eq_true, decide_eq_true_eq, decide_eq_true_eq] at hy
              exact g2.2.2.2.2 (Int32.toInt_inj.mp (by omega)) p hp
            | false => rw [hy] at hp; cases hp
    · cases hp
/-- an answer, in the caller's words -/
def a_rt (L : List (Nat × aV)) (a : aV) : aV := (a.1, a.2.1, a.2.2.1, none, a_trf L a.2.2.2.2.1, a_trf L a.2.2.2.2.2)
theorem a_rt_ok {σ : aN → Int} {n : Nat} {S : List aV} {V : List Value} {a : aV} {v : Value} (h : a_st σ n S V) (hv : a_v (a_sg V) n a v) : a_v σ n (a_rt (a_sl 0 S) a) v := by
  obtain ⟨k, lo, hi, o, ft, ff⟩ := a
  unfold a_v at hv ⊢
  unfold a_rt
  dsimp only at hv ⊢
  split at hv
  · obtain ⟨x, rfl, g1, g2, g3, g4, g5⟩ := hv
    exact ⟨x, rfl, g1, g2, fun m c e => (by cases e), fun z => a_trf_ok h (g4 z), fun z => a_trf_ok h (g5 z)⟩
  · exact hv
  · exact hv
  · exact hv
  · exact hv
end XAM
