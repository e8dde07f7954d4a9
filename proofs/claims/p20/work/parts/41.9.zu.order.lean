section XOD
/-- more members never carry less -/
def Wm (W : Nat → Bool) (m : Nat) : Prop := ∀ s t, s < 2 ^ m → t < 2 ^ m → s &&& t = s → W s = true → W t = true
theorem sub_tb {s t i : Nat} (h : s &&& t = s) (hi : s.testBit i = true) : t.testBit i = true := by
  have e := congrArg (fun n => Nat.testBit n i) h
  simp only [Nat.testBit_and, hi, Bool.true_and] at e
  exact e
theorem tb_sub {s t : Nat} (h : ∀ i, s.testBit i = true → t.testBit i = true) : s &&& t = s := Nat.eq_of_testBit_eq (fun i => by
  rw [Nat.testBit_and]
  cases c : s.testBit i with
  | false => rfl
  | true => rw [h i c]; rfl)
theorem dz_m {W : Nat → Bool} {m : Nat} {hd : Bool} (M : Wm W m) : Wm (dz W m hd) m := by
  intro s t hs ht h
  cases hd with
  | false => exact M s t hs ht h
  | true =>
    intro z
    show (!W (co m t)) = true
    have z : (!W (co m s)) = true := z
    cases c : W (co m t) with
    | false => rfl
    | true =>
      have := M (co m t) (co m s) co_lt co_lt (tb_sub (fun i hi => by
        rw [co_tb ht, Bool.and_eq_true, Bool.not_eq_true'] at hi
        rw [co_tb hs, hi.1, Bool.true_and]
        cases c2 : s.testBit i with
        | false => rfl
        | true => exact absurd ((sub_tb h c2).symm.trans hi.2) (by decide))) c
      rw [this] at z
      exact z
theorem aln_g {P : Nat → Bool} : ∀ {n : Nat}, aln P n = true → ∀ k, k < n → P k = true := by
  intro n
  induction n with
  | zero => intro _ k hk'; omega
  | succ n ih =>
    intro h k hk'
    have h : (aln P n && P n) = true := h
    rw [Bool.and_eq_true] at h
    by_cases z : k = n
    · rw [z]; exact h.2
    · exact ih h.1 k (by omega)
theorem aln_i {P : Nat → Bool} : ∀ {n : Nat}, (∀ k, k < n → P k = true) → aln P n = true := by
  intro n
  induction n with
  | zero => intro _; rfl
  | succ n ih => intro h; exact aln_s (ih (fun k hk' => h k (by omega))) (h n (by omega))
theorem tb_lt {s m i : Nat} (hs : s < 2 ^ m) (h : s.testBit i = true) : i < m := by
  by_cases z : i < m
  · exact z
  · rw [Nat.testBit_lt_two_pow (Nat.lt_of_lt_of_le hs (Nat.pow_le_pow_right (by decide) (by omega)))] at h
    cases h
/-- of two least ones none is inside the other -/
theorem mi_a {W : Nat → Bool} {m : Nat} {hd : Bool} (M : Wm W m) {a b : Nat} (ha : a < 2 ^ m) (hb : b < 2 ^ m) (pa : mi W m hd a = true) (pb : mi W m hd b = true) (h : a &&& b = a) : a = b := by
  unfold mi at pa pb
  rw [Bool.and_eq_true] at pa pb
  refine Nat.eq_of_testBit_eq (fun i => ?_)
  cases c : a.testBit i with
  | true => exact (sub_tb h c).symm
  | false =>
    cases c2 : b.testBit i with
    | false => rfl
    | true =>
      have g := aln_g pb.2 i (tb_lt hb c2)
      have : dz W m hd (rmb b i) = true := dz_m M a (rmb b i) ha (rmb_lt hb) (tb_sub (fun j hj => by
        rw [rmb_tb, sub_tb h hj, Bool.true_and]
        by_cases z : i = j
        · rw [← z, c] at hj; cases hj
        · rw [decide_eq_false z]; rfl)) pa.1
      rw [c2, this] at g
      exact absurd g (by decide)
theorem cnt_fl {P : Nat → Bool} : ∀ n, cnt P n = ((List.range n).filter P).length := by
  intro n
  induction n with
  | zero => rfl
  | succ n ih =>
    rw [List.range_succ, List.filter_append, List.length_append, ← ih]
    cases c : P n with
    | true => rw [cnt_t c]; simp [c]
    | false => rw [cnt_f c]; simp [c]
theorem mi_924 {W : Nat → Bool} {m : Nat} {hd : Bool} (m12 : m ≤ 12) (M : Wm W m) : cnt (mi W m hd) (2 ^ m) ≤ 924 := by
  have p12 : 2 ^ m ≤ 4096 := show 2 ^ m ≤ 2 ^ 12 from Nat.pow_le_pow_right (by decide) m12
  have e : cnt (mi W m hd) (2 ^ m) = cnt (fun s => decide (s < 2 ^ m) && mi W m hd s) (2 ^ m) := cnt_c _ (fun k hk' => by rw [decide_eq_true hk', Bool.true_and])
  rw [e]
  refine Nat.le_trans (cnt_m p12) ?_
  rw [cnt_fl]
  refine sperner (fun a b ha hb h => ?_)
  rw [Bool.and_eq_true] at ha hb
  exact mi_a M (of_decide_eq_true ha.1) (of_decide_eq_true hb.1) ha.2 hb.2 h
theorem lcn_e {W : Nat → Bool} {m : Nat} {hd : Bool} (m12 : m ≤ 12) (M : Wm W m) : lcn (mi W m hd) (2 ^ m) = cnt (mi W m hd) (2 ^ m) := Nat.min_eq_left (mi_924 m12 M)
/-- all in the order of size, then of number -/
def qp (P : Nat → Bool) (N p : Nat) : Bool := P (p % N) && decide (sz (p % N) = p / N)
theorem cnt_ad {P : Nat → Bool} {a : Nat} : ∀ n, cnt P (a + n) = cnt P a + cnt (fun t => P (a + t)) n := by
  intro n
  induction n with
  | zero => rfl
  | succ n ih =>
    show (if P (a + n) = true then cnt P (a + n) + 1 else cnt P (a + n)) = cnt P a + (if P (a + n) = true then cnt (fun t => P (a + t)) n + 1 else cnt (fun t => P (a + t)) n)
    rw [ih]
    split <;> omega
theorem qp_k {P : Nat → Bool} {N k t : Nat} (ht : t < N) : qp P N (N * k + t) = qk P k t := by
  unfold qp qk
  rw [Nat.mul_add_mod, Nat.mod_eq_of_lt ht, Nat.mul_add_div (by omega), Nat.div_eq_of_lt ht, Nat.add_zero]
theorem cq_k {P : Nat → Bool} {N : Nat} : ∀ k, cnt (qp P N) (N * k) = cum P N k := by
  intro k
  induction k with
  | zero => rfl
  | succ k ih =>
    rw [Nat.mul_succ, cnt_ad, ih]
    show _ = cum P N k + cnt (qk P k) N
    rw [cnt_c N (fun t ht => qp_k ht)]
theorem cq_t {P : Nat → Bool} {N k t : Nat} (ht : t ≤ N) : cnt (qp P N) (N * k + t) = cum P N k + cnt (qk P k) t := by
  rw [cnt_ad, cq_k, cnt_c t (fun j hj => qp_k (by omega))]
theorem rk_q {P : Nat → Bool} {N t : Nat} (ht : t < N) : rk P N t = cnt (qp P N) (N * sz t + t) := (cq_t (Nat.le_of_lt ht)).symm
theorem cum_n {P : Nat → Bool} {n : Nat} : ∀ j, cum P (n + 1) j = cum P n j + (if P n = true ∧ sz n < j then 1 else 0) := by
  intro j
  induction j with
  | zero => rw [if_neg (by omega)]; rfl
  | succ j ih =>
    show cum P (n + 1) j + cnt (qk P j) (n + 1) = cum P n j + cnt (qk P j) n + _
    rw [ih]
    cases c : P n with
    | false =>
      rw [cnt_f (show qk P j n = false by unfold qk; rw [c]; rfl), if_neg (fun z => absurd z.1 (by decide)), if_neg (fun z => absurd z.1 (by decide))]
      omega
    | true =>
      by_cases z : sz n = j
      · rw [cnt_t (show qk P j n = true by unfold qk; rw [c, decide_eq_true z]; rfl), if_neg (by omega), if_pos ⟨rfl, by omega⟩]
        omega
      · rw [cnt_f (show qk P j n = false by unfold qk; rw [c, decide_eq_false z]; rfl)]
        by_cases y : sz n < j
        · rw [if_pos ⟨rfl, y⟩, if_pos ⟨rfl, by omega⟩]; omega
        · rw [if_neg (by omega), if_neg (by omega)]; omega
theorem cum_13 {P : Nat → Bool} : ∀ n, cum P n 13 = cnt P n := by
  intro n
  induction n with
  | zero => rfl
  | succ n ih =>
    rw [cum_n, ih]
    have := sz_le (s := n)
    cases c : P n with
    | true => rw [cnt_t c, if_pos ⟨rfl, by omega⟩]
    | false => rw [cnt_f c, if_neg (fun y => absurd y.1 (by decide))]; rfl
theorem cnt_sur {P : Nat → Bool} {j : Nat} : ∀ n, j < cnt P n → ∃ p, p < n ∧ P p = true ∧ cnt P p = j := by
  intro n
  induction n with
  | zero => intro h; exact absurd h (Nat.not_lt_zero j)
  | succ n ih =>
    intro h
    cases c : P n with
    | false =>
      rw [cnt_f c] at h
      obtain ⟨p, p1, p2⟩ := ih h
      exact ⟨p, by omega, p2⟩
    | true =>
      rw [cnt_t c] at h
      by_cases z : j = cnt P n
      · exact ⟨n, by omega, c, z.symm⟩
      · obtain ⟨p, p1, p2⟩ := ih (by omega)
        exact ⟨p, by omega, p2⟩
/-- every place is some set's -/
theorem rk_sur {P : Nat → Bool} {N j : Nat} (N0 : 0 < N) (h : j < cnt P N) : ∃ t, t < N ∧ P t = true ∧ rk P N t = j := by
  rw [← cum_13, ← cq_k] at h
  obtain ⟨p, p1, p2, p3⟩ := cnt_sur _ h
  unfold qp at p2
  rw [Bool.and_eq_true] at p2
  have e := of_decide_eq_true p2.2
  refine ⟨p % N, Nat.mod_lt _ N0, p2.1, ?_⟩
  rw [rk_q (Nat.mod_lt _ N0), e, Nat.div_add_mod]
  exact p3
theorem rk_tot {P : Nat → Bool} {N t : Nat} (h : P t = true) (ht : t < N) : rk P N t < cnt P N := by
  rw [← cum_13]
  have := cum_m (P := P) (N := N) (show sz t + 1 ≤ 13 by have := sz_le (s := t); omega)
  have := rk_lt h ht
  omega
/-- a row holds just those sets -/
theorem rw_all {W : Nat → Bool} {m c : Nat} {hd : Bool} {h : xh_H} (m12 : m ≤ 12) (M : Wm W m) (R : rwQ (mi W m hd) (2 ^ m) c h) : (∀ t, t < 2 ^ m → mi W m hd t = true → ∃ j, j < cnt (mi W m hd) (2 ^ m) ∧ xg 0 h.2.1 c j = nI t) ∧ ∀ j, j < cnt (mi W m hd) (2 ^ m) → ∃ t, t < 2 ^ m ∧ mi W m hd t = true ∧ rk (mi W m hd) (2 ^ m) t = j ∧ xg 0 h.2.1 c j = nI t := by
  have b := mi_924 (hd := hd) m12 M
  refine ⟨fun t ht p => ?_, fun j hj => ?_⟩
  · have l := rk_tot p ht
    exact ⟨_, l, R t ht p (by omega)⟩
  · obtain ⟨t, t1, t2, t3⟩ := rk_sur (Nat.two_pow_pos m) hj
    exact ⟨t, t1, t2, t3, by rw [← t3]; exact R t t1 t2 (by rw [t3]; omega)⟩
/-- in all of them -/
def inA (P : Nat → Bool) (N a : Nat) : Bool := aln (fun s => !P s || s.testBit a) N
/-- in none of them -/
def inN (P : Nat → Bool) (N a : Nat) : Bool := aln (fun s => !P s || !s.testBit a) N
theorem msk_f {n : Nat} : msk (fun _ => true) n = 2 ^ n - 1 := by
  refine Nat.eq_of_testBit_eq (fun i => ?_)
  rw [msk_tb, Nat.testBit_two_pow_sub_one, Bool.and_true]
theorem msk_e {f : Nat → Bool} {n x : Nat} (hx : ∀ i, x.testBit i = (decide (i < n) && f i)) : x = msk f n := Nat.eq_of_testBit_eq (fun i => by rw [hx, msk_tb])
theorem nf_m {R : Nat → Int32} {T : Nat → Nat} {m : Nat} : ∀ L, (∀ j, j < L → R j = nI (T j)) → nf R (nI (2 ^ m - 1)) L = nI (msk (fun a => aln (fun j => (T j).testBit a) L) m) := by
  intro L
  induction L with
  | zero =>
    intro _
    show nI (2 ^ m - 1) = _
    rw [← msk_f]
    rfl
  | succ L ih =>
    intro h
    show nf R _ L &&& R L = _
    rw [ih (fun j hj => h j (by omega)), h L (by omega), nI_and]
    congr 1
    refine msk_e (fun i => ?_)
    rw [Nat.testBit_and, msk_tb]
    show _ = (decide (i < m) && (aln (fun j => (T j).testBit i) L && (T L).testBit i))
    rw [Bool.and_assoc]
theorem idf_m {R : Nat → Int32} {T : Nat → Nat} {m : Nat} : ∀ L, (∀ j, j < L → R j = nI (T j)) → idf R (nI (2 ^ m - 1)) L = nI (msk (fun a => aln (fun j => !(T j).testBit a) L) m) := by
  intro L
  induction L with
  | zero =>
    intro _
    show nI (2 ^ m - 1) = _
    rw [← msk_f]
    rfl
  | succ L ih =>
    intro h
    show idf R _ L &&& (R L ^^^ Int32.ofInt (-1)) = _
    rw [ih (fun j hj => h j (by omega)), h L (by omega)]
    refine nI_andn (fun i _ => ?_)
    rw [msk_tb, msk_tb]
    show _ = (decide (i < m) && (aln (fun j => !(T j).testBit i) L && !(T L).testBit i))
    rw [Bool.and_assoc]
/-- who is needed, who is idle -/
def ndN (P : Nat → Bool) (N m : Nat) : Nat := if cnt P N = 0 then 0 else msk (inA P N) m
def idN (P : Nat → Bool) (N m : Nat) : Nat := msk (inN P N) m
theorem nd_idx {P : Nat → Bool} {N : Nat} (f : Nat → Bool) {T : Nat → Nat} {L : Nat} (h1 : ∀ t, t < N → P t = true → ∃ j, j < L ∧ T j = t) (h2 : ∀ j, j < L → T j < N ∧ P (T j) = true) : aln (fun j => f (T j)) L = aln (fun s => !P s || f s) N := by
  refine Bool.eq_iff_iff.mpr ⟨fun h => aln_i (fun s hs => ?_), fun h => aln_i (fun j hj => ?_)⟩
  · cases c : P s with
    | false => rfl
    | true =>
      obtain ⟨j, j1, j2⟩ := h1 s hs c
      have := aln_g h j j1
      rw [j2] at this
      rw [this]; rfl
  · obtain ⟨a, b⟩ := h2 j hj
    have := aln_g h _ a
    rw [b] at this
    exact this
theorem nd_e {W : Nat → Bool} {m : Nat} {h : xh_H} (m12 : m ≤ 12) (M : Wm W m) (P : PD W m h) : xg 0 h.2.1 14 11 = nI (ndN (mi W m false) (2 ^ m) m) ∧ xg 0 h.2.1 14 12 = nI (idN (mi W m false) (2 ^ m) m) := by
  obtain ⟨-, -, ⟨p3, p4⟩, -, p7, p8⟩ := P
  obtain ⟨r1, r2⟩ := rw_all m12 M p4
  rw [lcn_e m12 M] at p7 p8
  have T : ∃ T : Nat → Nat, ∀ j, j < cnt (mi W m false) (2 ^ m) → T j < 2 ^ m ∧ mi W m false (T j) = true ∧ xg 0 h.2.1 15 j = nI (T j) := by
    refine ⟨fun j => (xg 0 h.2.1 15 j).toNatClampNeg, fun j hj => ?_⟩
    obtain ⟨t, t1, t2, -, t3⟩ := r2 j hj
    have p12 : 2 ^ m ≤ 4096 := show 2 ^ m ≤ 2 ^ 12 from Nat.pow_le_pow_right (by decide) m12
    show (xg 0 h.2.1 15 j).toNatClampNeg < _ ∧ mi W m false (xg 0 h.2.1 15 j).toNatClampNeg = true ∧ _ = nI (xg 0 h.2.1 15 j).toNatClampNeg
    rw [t3, nI_clamp (by omega)]
    exact ⟨t1, t2, rfl⟩
  obtain ⟨T, hT⟩ := T
  have p12 : 2 ^ m ≤ 4096 := show 2 ^ m ≤ 2 ^ 12 from Nat.pow_le_pow_right (by decide) m12
  have h1 : ∀ t, t < 2 ^ m → mi W m false t = true → ∃ j, j < cnt (mi W m false) (2 ^ m) ∧ T j = t := fun t ht p => by
    obtain ⟨j, j1, j2⟩ := r1 t ht p
    obtain ⟨a, -, b⟩ := hT j j1
    rw [j2] at b
    exact ⟨j, j1, ((nI_eq (by omega) (by omega)).mp b).symm⟩
  have h2 : ∀ j, j < cnt (mi W m false) (2 ^ m) → T j < 2 ^ m ∧ mi W m false (T j) = true := fun j hj => ⟨(hT j hj).1, (hT j hj).2.1⟩
  have c9 := cnt_le (P := mi W m false) (2 ^ m)
  constructor
  · rw [p7]
    unfold ndN
    by_cases z : cnt (mi W m false) (2 ^ m) = 0
    · rw [if_pos z, z]; rfl
    · rw [if_neg z, show xe_c .le (nI (cnt (mi W m false) (2 ^ m))) 0 = false from xle_f (by rw [nI_toInt (by omega)]; show (0 : Int) < _; omega)]
      show nf _ (nI (2 ^ m - 1)) _ = _
      rw [nf_m (T := T) _ (fun j hj => (hT j hj).2.2)]
      congr 1
      exact msk_c m (fun a _ => nd_idx (fun s => s.testBit a) h1 h2)
  · rw [p8, idf_m (T := T) _ (fun j hj => (hT j hj).2.2)]
    unfold idN
    congr 1
    exact msk_c m (fun a _ => nd_idx (fun s => !s.testBit a) h1 h2)
/-- today's statute never carries less with more -/
theorem cv_m {h : xh_H} {mem sc : Nat} {d : Int32} (hi : a_inv a_tb h) (m12 : mem ≤ 12) (e33 : xg 0 h.2.1 39 33 = nI sc) (sc8 : sc ≤ 8) (hb : ∀ k s, k < sc → s < 2 ^ mem → ∃ b : Bool, xg 0 h.2.1 44 (4096 * k + s) = bl b) : Wm (cvB (fun k => xg 0 h.2.1 51 k) (fun k => xg 0 h.2.1 44 k) mem sc d) mem := by
  have p12 : 2 ^ mem ≤ 4096 := show 2 ^ mem ≤ 2 ^ 12 from Nat.pow_le_pow_right (by decide) m12
  intro s t hs ht hst
  unfold cvB
  cases o : iF (fun k => xg 0 h.2.1 51 k) (fun _ => true) d sc with
  | none =>
    intro z
    have z := of_decide_eq_true (show decide (s = 2 ^ mem - 1) = true from z)
    show decide (t = 2 ^ mem - 1) = true
    refine decide_eq_true (Nat.eq_of_testBit_eq (fun i => ?_))
    cases c : t.testBit i with
    | true => rw [Nat.testBit_two_pow_sub_one, decide_eq_true (tb_lt ht c)]
    | false =>
      cases c2 : (2 ^ mem - 1).testBit i with
      | false => rfl
      | true => rw [← z] at c2; rw [sub_tb hst c2] at c; exact absurd c (by decide)
  | some k =>
    have kl := iF_lt o
    intro z
    have z := of_decide_eq_true (show decide (xg 0 h.2.1 44 (4096 * k + s) = 1) = true from z)
    show decide (xg 0 h.2.1 44 (4096 * k + t) = 1) = true
    have J := hi.2.2.1 k (by rw [e33, nI_toInt (by omega)]; omega) s t (by omega) (by omega) hst
    dsimp only at J
    rw [z] at J
    obtain ⟨b, e⟩ := hb k t kl ht
    rw [e] at J ⊢
    cases b with
    | true => rfl
    | false => exact absurd J (by decide)
end XOD
