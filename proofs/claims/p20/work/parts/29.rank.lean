section XAL
def lf_v (σ : aN → Int) : List (Int × aN) → Int
  | [] => 0
  | q :: t => q.1 * σ q.2 + lf_v σ t
def lf_ad (w : Int) (n : aN) : List (Int × aN) → List (Int × aN)
  | [] => [(w, n)]
  | q :: t => cond (a_nq q.2 n) ((q.1 + w, q.2) :: t) (q :: lf_ad w n t)
theorem lf_ad_v {σ : aN → Int} (w : Int) (n : aN) : ∀ l : List (Int × aN), lf_v σ (lf_ad w n l) = lf_v σ l + w * σ n := by
  intro l
  induction l with
  | nil =>
    show w * σ n + 0 = 0 + w * σ n
    omega
  | cons q t ih =>
    unfold lf_ad
    cases hb : a_nq q.2 n with
    | true =>
      have e := a_nq_ok hb
      show (q.1 + w) * σ q.2 + lf_v σ t = q.1 * σ q.2 + lf_v σ t + w * σ n
      rw [e, Int.add_mul]
      omega
    | false =>
      show q.1 * σ q.2 + lf_v σ (lf_ad w n t) = q.1 * σ q.2 + lf_v σ t + w * σ n
      rw [ih]
      omega
def lf_ub (E : aF) : List (Int × aN) → Option Int
  | [] => some 0
  | q :: t => (match lf_ub E t with
    | none => none
    | some u => cond (decide (q.1 = 0)) (some u) (match a_fd E q.2 with
      | none => none
      | some (lo, hi) => some (u + cond (decide (0 ≤ q.1)) (q.1 * hi) (q.1 * lo))))
theorem lf_w {w lo hi z : Int} (h1 : lo ≤ z) (h2 : z ≤ hi) : w * z ≤ cond (decide (0 ≤ w)) (w * hi) (w * lo) := by
  cases hw : decide (0 ≤ w) with
  | true => exact Int.mul_le_mul_of_nonneg_left h2 (of_decide_eq_true hw)
  | false =>
    have := of_decide_eq_false hw
    exact Int.mul_le_mul_of_nonpos_left (by omega) h1
theorem lf_ub_ok {σ : aN → Int} {E : aF} (hE : a_f σ E) : ∀ {l : List (Int × aN)} {u : Int}, lf_ub E l = some u → lf_v σ l ≤ u := by
  intro l
  induction l with
  | nil => intro u h; cases h; exact Int.le_refl _
  | cons q t ih =>
    intro u h
    unfold lf_ub at h
    split at h
    · cases h
    · rename_i u1 hu
      have g := ih hu
      cases hz : decide (q.1 = 0) with
      | true =>
        rw [hz] at h
        have h : u1 = u := Option.some.inj h
        show q.1 * σ q.2 + lf_v σ t ≤ u
        rw [of_decide_eq_true hz]
        omega
      | false =>
        rw [hz] at h
        dsimp only [cond_false] at h
        split at h
        · cases h
        · rename_i lo hi hf
          cases h
          have b := a_fd_ok hE hf
          have w := lf_w (w := q.1) b.1 b.2
          dsimp only at w
          show q.1 * σ q.2 + lf_v σ t ≤ u1 + cond (decide (0 ≤ q.1)) (q.1 * hi) (q.1 * lo)
          omega
def a_rv (σ : aN → Int) (H : aH) : Int := H.2.2.2.2.1 + lf_v σ H.2.2.2.2.2
/-- a name's worth at the next head, in the words of this one -/
def a_nv (tb : aT) (A : aS) (n : aN) : Option (Option (aN × Int) × Int × Int) := match n.1 with
  | 0 => cond (Nat.blt n.2 100) (match a_lk A.1 n.2 with
    | some a => cond (Nat.beq a.1 0) (some (a.2.2.2.1, a_bd A.2.2.1 a)) none
    | none => none) (some (some (n, 0), 0, 0))
  | c + 1 => cond (a_ob c) (match a_cf tb A (c, n.2) with
    | some a => cond (Nat.beq a.1 0) (some (a.2.2.2.1, a_bd A.2.2.1 a)) none
    | none => none) none
variable {tb : aT} {σ : aN → Int} {h0 : xh_H} {md : List (Nat × Nat)} {A : aS} {lv : List (Nat × Value)} {st : List Value} {h : xh_H}
theorem a_nv_ok {n : aN} {o : Option (aN × Int)} {p : Int × Int} (hs : a_s tb σ h0 md A lv st h) (hn : 72 ≤ h.1.length) (he : a_nv tb A n = some (o, p)) : (∀ m e, o = some (m, e) → a_sn σ lv h n = σ m + e) ∧ (o = none → p.1 ≤ a_sn σ lv h n ∧ a_sn σ lv h n ≤ p.2) := by
  have hs0 := hs
  obtain ⟨i1, i2, i3, i4, i5, i6, i7⟩ := hs0
  obtain ⟨n1, n2⟩ := n
  unfold a_nv at he
  dsimp only at he
  match n1, he with
  | 0, he =>
    cases hb : Nat.blt n2 100 with
    | true =>
      rw [hb] at he
      dsimp only [cond_true] at he
      split at he
      · rename_i a ha
        obtain ⟨g1, g2⟩ := xw_c he
        cases g2
        have g1 := xw_beq g1
        obtain ⟨v, k1, k2⟩ := i3 _ (a_lk_mem ha)
        unfold a_v at k2
        rw [g1] at k2
        obtain ⟨x, rfl, k2⟩ := k2
        have e : a_sn σ lv h (0, n2) = x.toInt := by
          unfold a_sn
          dsimp only
          rw [hb, k1]
          rfl
        rw [e]
        exact ⟨k2.2.2.1, fun _ => a_bd_ok i5 k2⟩
      · cases he
    | false =>
      rw [hb] at he
      cases he
      have e : a_sn σ lv h (0, n2) = σ (0, n2) := by
        unfold a_sn
        dsimp only
        rw [hb]
        rfl
      rw [e]
      refine ⟨fun m e z => ?_, fun z => by cases z⟩
      cases z
      omega
  | c + 1, he =>
    obtain ⟨g1, g2⟩ := xw_c he
    split at g2
    · rename_i a ha
      obtain ⟨g3, g4⟩ := xw_c g2
      cases g4
      have g3 := xw_beq g3
      have k := a_cf_ok hs hn g1 ha
      unfold a_v at k
      rw [g3] at k
      obtain ⟨x, e, k⟩ := k
      cases e
      have e : a_sn σ lv h (c + 1, n2) = (xg 0 h.2.1 c n2).toInt := rfl
      rw [e]
      exact ⟨k.2.2.1, fun _ => a_bd_ok i5 k⟩
    · cases g2
def a_rk (tb : aT) (A : aS) : List (Int × aN) → Option (Int × List (Int × aN))
  | [] => some (0, [])
  | q :: t => (match a_rk tb A t with
    | none => none
    | some (c, l) => (match a_nv tb A q.2 with
      | none => none
      | some (some (m, e), _) => some (c + q.1 * e, lf_ad q.1 m l)
      | some (none, p) => some (c + cond (decide (0 ≤ q.1)) (q.1 * p.2) (q.1 * p.1), l)))
theorem a_rk_ok (hs : a_s tb σ h0 md A lv st h) (hn : 72 ≤ h.1.length) : ∀ {T : List (Int × aN)} {c : Int} {l : List (Int × aN)}, a_rk tb A T = some (c, l) → lf_v (a_sn σ lv h) T ≤ c + lf_v σ l := by
  intro T
  induction T with
  | nil => intro c l he; cases he; exact Int.le_refl _
  | cons q t ih =>
    intro c l he
    unfold a_rk at he
    split at he
    · cases he
    · rename_i c1 l1 h1
      have g := ih h1
      split at he
      · cases he
      · rename_i m e p hv
        cases he
        have k := (a_nv_ok hs hn hv).1 m e rfl
        rw [lf_ad_v]
        show q.1 * a_sn σ lv h q.2 + lf_v (a_sn σ lv h) t ≤ c1 + q.1 * e + (lf_v σ l1 + q.1 * σ m)
        rw [k, Int.mul_add]
        omega
      · rename_i p hv
        cases he
        have k := (a_nv_ok hs hn hv).2 rfl
        have w := lf_w (w := q.1) k.1 k.2
        show q.1 * a_sn σ lv h q.2 + lf_v (a_sn σ lv h) t ≤ c1 + cond (decide (0 ≤ q.1)) (q.1 * p.2) (q.1 * p.1) + lf_v σ l
        omega
def lf_sub (l : List (Int × aN)) : List (Int × aN) → List (Int × aN)
  | [] => l
  | q :: t => lf_sub (lf_ad (-q.1) q.2 l) t
theorem lf_sub_v {σ : aN → Int} : ∀ (t l : List (Int × aN)), lf_v σ (lf_sub l t) = lf_v σ l - lf_v σ t := by
  intro t
  induction t with
  | nil =>
    intro l
    show lf_v σ l = lf_v σ l - 0
    omega
  | cons q t ih =>
    intro l
    show lf_v σ (lf_sub (lf_ad (-q.1) q.2 l) t) = lf_v σ l - (q.1 * σ q.2 + lf_v σ t)
    rw [ih, lf_ad_v, Int.neg_mul]
    omega
/-- from one head to the next: the frame fits, the rank falls -/
def a_ed (tb : aT) (A : aS) (H G : aH) : Bool := a_en tb A G && (match a_rk tb A G.2.2.2.2.2 with
  | none => false
  | some (c, l) => (match lf_ub A.2.2.1 (lf_sub l H.2.2.2.2.2) with
    | none => false
    | some u => decide (G.2.2.2.2.1 + c + u < H.2.2.2.2.1)))
theorem a_ed_ok {H G : aH} (hs : a_s tb σ h0 md A lv st h) (hn : 72 ≤ h.1.length) (he : a_ed tb A H G = true) : a_s tb (a_sn σ lv h) h0 md (a_hd G) lv st h ∧ a_rv (a_sn σ lv h) G < a_rv σ H := by
  unfold a_ed at he
  obtain ⟨h1, h2⟩ := xw_bb he
  refine ⟨a_en_ok hs hn h1, ?_⟩
  split at h2
  · cases h2
  · rename_i c l hk
    split at h2
    · cases h2
    · rename_i u hu
      have h2 := of_decide_eq_true h2
      have k1 := a_rk_ok hs hn hk
      have k2 := lf_ub_ok hs.2.2.2.2.1 hu
      rw [lf_sub_v] at k2
      unfold a_rv
      omega
/-- a head's rank is no less than 0 -/
def a_h0 (H : aH) : Bool := match lf_ub (a_hd H).2.2.1 (lf_sub [] H.2.2.2.2.2) with
  | none => false
  | some u => decide (u ≤ H.2.2.2.2.1)
theorem a_h0_ok {H : aH} (hE : a_f σ (a_hd H).2.2.1) (he : a_h0 H = true) : 0 ≤ a_rv σ H := by
  unfold a_h0 at he
  split at he
  · cases he
  · rename_i u hu
    have he := of_decide_eq_true he
    have k := lf_ub_ok hE hu
    rw [lf_sub_v] at k
    unfold a_rv
    have e : lf_v σ ([] : List (Int × aN)) = 0 := rfl
    omega
end XAL
