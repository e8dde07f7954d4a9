section XIF
/-- the statute in force: the last of those with the greatest day that has come -/
def iF (FR : Nat → Int32) (ok : Nat → Bool) (d : Int32) : Nat → Option Nat
  | 0 => none
  | k + 1 => (match iF FR ok d k with
    | none => if (ok k && !xe_c .gt (FR k) d) = true then some k else none
    | some j => if (ok k && (!xe_c .gt (FR k) d && !xe_c .lt (FR k) (FR j))) = true then some k else some j)
theorem iF_lt {FR : Nat → Int32} {ok : Nat → Bool} {d : Int32} : ∀ {n j : Nat}, iF FR ok d n = some j → j < n := by
  intro n
  induction n with
  | zero => intro j h; cases h
  | succ n ih =>
    intro j h
    unfold iF at h
    cases e : iF FR ok d n with
    | none =>
      rw [e] at h
      dsimp only at h
      split at h
      · cases h; omega
      · cases h
    | some i =>
      rw [e] at h
      have := ih e
      dsimp only at h
      split at h
      · cases h; omega
      · cases h; omega
theorem iF_c {FR FR' : Nat → Int32} {ok ok' : Nat → Bool} {d : Int32} : ∀ {n : Nat}, (∀ k, k < n → FR k = FR' k) → (∀ k, k < n → ok k = ok' k) → iF FR ok d n = iF FR' ok' d n := by
  intro n
  induction n with
  | zero => intro _ _; rfl
  | succ n ih =>
    intro e1 e2
    have e := ih (fun k hk' => e1 k (by omega)) (fun k hk' => e2 k (by omega))
    unfold iF
    rw [e, e1 n (by omega), e2 n (by omega)]
    cases h : iF FR' ok' d n with
    | none => rfl
    | some j =>
      dsimp only
      rw [e1 j (by have := iF_lt h; omega)]
/-- one statute, in the class and in the reference -/
def st1 (h : xh_H) (mem k : Nat) : Prop := ∃ q, 72 ≤ q ∧ q % 2 = 0 ∧ q + 1 < h.1.length ∧ xg none h.2.2.2 13 k = some q ∧ xg none h.2.2.2 q 1 = some (q + 1) ∧ xg 0 h.2.1 q 0 = xg 0 h.2.1 51 k ∧ 0 ≤ (xg 0 h.2.1 51 k).toInt ∧ ((xg 0 h.2.1 52 k).toInt ≤ (xg 0 h.2.1 51 k).toInt ∧ (xg 0 h.2.1 51 k).toInt ≤ 999) ∧ ∀ s, s < 2 ^ mem → bl (hv h (q + 1) s) = xg 0 h.2.1 44 (4096 * k + s)
/-- the statutes, in the class and in the reference -/
def SI (h : xh_H) : Prop := (xg 0 h.2.1 11 0 = Int32.ofInt (-1) ∧ xg none h.2.2.2 0 2 = some 11 ∧ xg none h.2.2.2 11 1 = some 12) ∧ ∀ mem sc, xg 0 h.2.1 0 9 = nI mem → mem ≤ 12 → xg 0 h.2.1 0 8 = nI sc → sc ≤ 8 → (∀ k, k < sc → st1 h mem k) ∧ ∀ s, s < 4096 → hv h 12 s = decide (s = 2 ^ mem - 1)
theorem st_sh {h : xh_H} {q : Nat} (hi : a_inv a_tb h) (q72 : 72 ≤ q) (qe : q % 2 = 0) (ql : q + 1 < h.1.length) : h.1[q]? = some (0, 7) ∧ h.1[q + 1]? = some (4, 64) := by
  refine ⟨(law_sh hi.1 ⟨by omega, a_tg_e q72 qe⟩).1, ?_⟩
  obtain ⟨s, es⟩ : ∃ s, h.1[q + 1]? = some s := ⟨_, List.getElem?_eq_getElem ql⟩
  obtain ⟨g1, -⟩ := hi.1 (q + 1) s es
  rw [a_tg_o (by omega) (by omega)] at g1
  rw [es]
  exact g1.symm
theorem xe_gi {c pc nL d len rK ri : Nat} {idx : Nat} {lv : List (Nat × Value)} {q : List Value} {h : xh_H} (hs : h.1[c]? = some (0, 7)) : xe_2 none nL (.getfield idx, len, 7, 0, rK, ri) d pc lv (.ref c :: q) h 0 0 = some (pc + 3, lv, .int (xg 0 h.2.1 c 0) :: q, h, 0, 0) := by
  have e1 : xe_1 nL (.getfield idx, len, 7, 0, rK, ri) pc lv (.ref c :: q) h 0 0 = some (pc + 3, lv, .int (xg 0 h.2.1 c 0) :: q, h, 0, 0) := by
    unfold xe_1 xp_r
    try dsimp only
    rw [hs]
    rfl
  unfold xe_2
  rw [e1]
theorem xe_aa {i : Int32} {c n t ra rb pc nL d len rK ri : Nat} {lv : List (Nat × Value)} {q : List Value} {h : xh_H} (hs : h.1[c]? = some (5, n)) (hi : xe_in i n = true) (hg : xg none h.2.2.2 c i.toNatClampNeg = some t) : xe_2 none nL (.aaload, len, ra, rb, rK, ri) d pc lv (.int i :: .ref c :: q) h 0 0 = some (pc + 1, lv, .ref t :: q, h, 0, 0) := by
  have e1 : xe_1 nL (.aaload, len, ra, rb, rK, ri) pc lv (.int i :: .ref c :: q) h 0 0 = some (pc + 1, lv, .ref t :: q, h, 0, 0) := by
    unfold xe_1 xp_ir
    try dsimp only
    rw [hs]
    show (cond (xe_in i n) (some (pc + 1, lv, va_rf (xg none h.2.2.2 c i.toNatClampNeg) :: q, h, 0, 0)) none) = _
    rw [hi, hg]
    rfl
  unfold xe_2
  rw [e1]
/-- where the statute in force lies in the class -/
def fD (h : xh_H) (Q : Nat) (o : Option Nat) : Prop := h.1[Q]? = some (0, 7) ∧ ((o = none ∧ Q = 11 ∧ xg 0 h.2.1 Q 0 = Int32.ofInt (-1)) ∨ ∃ j, o = some j ∧ xg none h.2.2.2 13 j = some Q ∧ xg 0 h.2.1 Q 0 = xg 0 h.2.1 51 j)
set_option maxRecDepth 100000 in
set_option maxHeartbeats 4000000 in
theorem if9_lp {h : xh_H} {mem sc : Nat} {d : Int32} (hi : a_inv a_tb h) (e8 : xg 0 h.2.1 0 8 = nI sc) (sc8 : sc ≤ 8) (S : ∀ k, k < sc → st1 h mem k) (hq : a_rq a_tb h) : ∀ (f i Q : Nat), i ≤ sc → fD h Q (iF (fun k => xg 0 h.2.1 51 k) (fun _ => true) d i) → xq f xi_X9_inForce xmi_X9_inForce 7 [(0, .ref 0), (1, .int d), (2, .ref Q), (3, .int (nI i))] [] h (fun v h' => h = h' ∧ ∃ Q, v = some (.ref Q) ∧ fD h Q (iF (fun k => xg 0 h.2.1 51 k) (fun _ => true) d sc)) := by
  intro f
  induction f with
  | zero => intros; exact xq_0
  | succ f ih =>
    intro i Q hi' fd
    by_cases e : i = sc
    · refine xq_m 59 [] [] [.ref Q] h [true] 6 hq rfl ⟨(show xe_c .ge (nI i) (xg 0 h.2.1 0 8) = true by rw [e8, e]; exact decide_eq_true (Int32.le_refl _)), trivial⟩ (fun _ => ?_)
      rw [e] at fd
      exact xq_ret rfl rfl rfl ⟨rfl, Q, rfl, fd⟩
    · have il : i < sc := by omega
      obtain ⟨q, q72, qe, ql, q1, q2, q3, q4, q5, q6⟩ := S i il
      obtain ⟨hs, hr⟩ := st_sh hi q72 qe ql
      have s13 : h.1[13]? = some (5, 8) := hq.2.1 13 _ rfl
      refine xq_m 20 [0, 1, 2, 3] [(0, .ref 0), (1, .int d), (2, .ref Q), (3, .int (nI i))] [.int (nI i), .ref 13] h [false] 8 hq rfl ⟨(show xe_c .ge (nI i) (xg 0 h.2.1 0 8) = false by rw [e8]; exact nge_f (by omega) (by omega) il), trivial⟩ (fun _ => ?_)
      refine xq_st rfl rfl (fun _ _ => xe_aa s13 (xin_n (by omega) (by omega)) (by rw [nI_clamp (by omega)]; exact q1)) ?_
      refine xq_n 25 [0, 1, 2, 3, 4] [(0, .ref 0), (1, .int d), (2, .ref Q), (3, .int (nI i)), (4, .ref q)] [.ref q] h [] 4 hq rfl trivial (fun _ => ?_)
      refine xq_st (pc1 := 28) (st1 := []) (h1 := h) rfl rfl (fun _ _ => rfl) ?_
      refine xq_n 30 [0, 1, 2, 3, 4] [(0, .ref 0), (1, .int d), (2, .ref Q), (3, .int (nI i)), (4, .ref q)] [.ref q] h [] 3 hq rfl trivial (fun _ => ?_)
      refine xq_st rfl rfl (fun _ _ => xe_gi hs) ?_
      have EU : iF (fun k => xg 0 h.2.1 51 k) (fun _ => true) d (i + 1) = (match iF (fun k => xg 0 h.2.1 51 k) (fun _ => true) d i with
        | none => if (true && !xe_c .gt (xg 0 h.2.1 51 i) d) = true then some i else none
        | some j => if (true && (!xe_c .gt (xg 0 h.2.1 51 i) d && !xe_c .lt (xg 0 h.2.1 51 i) (xg 0 h.2.1 51 j))) = true then some i else some j) := rfl
      have nx : nI i + Int32.ofInt 1 = nI (i + 1) := nI_1 i
      cases c1 : xe_c .gt (xg 0 h.2.1 51 i) d with
      | true =>
        refine xq_n 7 [0, 1, 2, 3] [(0, .ref 0), (1, .int d), (2, .ref Q), (3, .int ((nI i) + Int32.ofInt 1))] [] h [true] 6 hq rfl ⟨(show xe_c .gt (xg 0 h.2.1 q 0) d = true by rw [q3]; exact c1), trivial⟩ (fun _ => ?_)
        rw [nx]
        refine ih (i + 1) Q il ?_
        rw [EU]
        cases hI : iF (fun k => xg 0 h.2.1 51 k) (fun _ => true) d i with
        | none => rw [hI] at fd; dsimp only; rw [c1]; exact fd
        | some j => rw [hI] at fd; dsimp only; rw [c1]; exact fd
      | false =>
        refine xq_n 39 [0, 1, 2, 3, 4] [(0, .ref 0), (1, .int d), (2, .ref Q), (3, .int (nI i)), (4, .ref q)] [.ref q] h [false] 5 hq rfl ⟨(show xe_c .gt (xg 0 h.2.1 q 0) d = false by rw [q3]; exact c1), trivial⟩ (fun _ => ?_)
        refine xq_st rfl rfl (fun _ _ => xe_gi hs) ?_
        refine xq_n 43 [0, 1, 2, 3, 4] [(0, .ref 0), (1, .int d), (2, .ref Q), (3, .int (nI i)), (4, .ref q)] [.ref Q, .int (xg 0 h.2.1 q 0)] h [] 3 hq rfl trivial (fun _ => ?_)
        refine xq_st rfl rfl (fun _ _ => xe_gi fd.1) ?_
        rw [q3]
        cases c2 : xe_c .lt (xg 0 h.2.1 51 i) (xg 0 h.2.1 Q 0) with
        | true =>
          refine xq_n 7 [0, 1, 2, 3] [(0, .ref 0), (1, .int d), (2, .ref Q), (3, .int ((nI i) + Int32.ofInt 1))] [] h [true] 5 hq rfl ⟨c2, trivial⟩ (fun _ => ?_)
          rw [nx]
          refine ih (i + 1) Q il ?_
          rw [EU]
          rcases fd with ⟨f0, ⟨f1, f2, f3⟩ | ⟨j, f1, f2, f3⟩⟩
          · rw [f3] at c2
            have := a_ce c2
            have e1 : (Int32.ofInt (-1)).toInt = -1 := rfl
            have this : (xg 0 h.2.1 51 i).toInt < (Int32.ofInt (-1)).toInt := this
            rw [e1] at this
            omega
          · rw [f1]
            dsimp only
            rw [f3] at c2
            rw [c2, Bool.not_true, Bool.and_false, Bool.and_false]
            exact ⟨f0, Or.inr ⟨j, rfl, f2, f3⟩⟩
        | false =>
          refine xq_n 7 [0, 1, 2, 3] [(0, .ref 0), (1, .int d), (2, .ref q), (3, .int ((nI i) + Int32.ofInt 1))] [] h [false] 7 hq rfl ⟨c2, trivial⟩ (fun _ => ?_)
          rw [nx]
          refine ih (i + 1) q il ?_
          rw [EU]
          refine ⟨hs, Or.inr ⟨i, ?_, q1, q3⟩⟩
          rcases fd with ⟨f0, ⟨f1, f2, f3⟩ | ⟨j, f1, f2, f3⟩⟩
          · rw [f1]
            dsimp only
            rw [c1]
            rfl
          · rw [f1]
            dsimp only
            rw [f3] at c2
            rw [c1, c2]
            rfl
set_option maxRecDepth 100000 in
/-- CarryHouse.inForce -/
theorem if9_q {f : Nat} {h : xh_H} {mem sc : Nat} {d : Int32} (hi : a_inv a_tb h) (e8 : xg 0 h.2.1 0 8 = nI sc) (sc8 : sc ≤ 8) (u : xg 0 h.2.1 11 0 = Int32.ofInt (-1)) (u2 : xg none h.2.2.2 0 2 = some 11) (S : ∀ k, k < sc → st1 h mem k) (hq : a_rq a_tb h) : xq f xi_X9_inForce xmi_X9_inForce 0 [(0, .ref 0), (1, .int d)] [] h (fun v h' => h = h' ∧ ∃ Q, v = some (.ref Q) ∧ fD h Q (iF (fun k => xg 0 h.2.1 51 k) (fun _ => true) d sc)) := by
  refine xq_n 1 [0, 1] [(0, .ref 0), (1, .int d)] [.ref 0] h [] 3 hq rfl trivial (fun _ => ?_)
  refine xq_st rfl rfl (fun _ _ => xe_gr (hq.2.1 0 _ rfl) rfl u2) ?_
  refine xq_n 7 [0, 1, 2, 3] [(0, .ref 0), (1, .int d), (2, .ref 11), (3, .int (Int32.ofInt 0))] [] h [] 5 hq rfl trivial (fun _ => ?_)
  exact if9_lp hi e8 sc8 S hq f 0 11 (Nat.zero_le _) ⟨hq.2.1 11 _ rfl, Or.inl ⟨rfl, rfl, u⟩⟩
/-- whether a set carries by the statute in force -/
def cvo (RW : Nat → Int32) (mem s : Nat) (o : Option Nat) : Bool := match o with
  | none => decide (s = 2 ^ mem - 1)
  | some k => decide (RW (4096 * k + s) = 1)
def cvB (FR RW : Nat → Int32) (mem sc : Nat) (d : Int32) (s : Nat) : Bool := cvo RW mem s (iF FR (fun _ => true) d sc)
theorem cvB_c {FR FR' RW RW' : Nat → Int32} {mem sc s : Nat} {d : Int32} (e1 : ∀ k, k < sc → FR k = FR' k) (e2 : ∀ k, RW k = RW' k) : cvB FR RW mem sc d s = cvB FR' RW' mem sc d s := by
  unfold cvB
  rw [iF_c e1 (fun _ _ => rfl)]
  cases iF FR' (fun _ => true) d sc with
  | none => rfl
  | some k => unfold cvo; dsimp only; rw [e2]
theorem hv_cv {h : xh_H} {mem sc s Q : Nat} {d : Int32} (hi : a_inv a_tb h) (m12 : mem ≤ 12) (S : ∀ k, k < sc → st1 h mem k) (un : ∀ s, s < 4096 → hv h 12 s = decide (s = 2 ^ mem - 1)) (u3 : xg none h.2.2.2 11 1 = some 12) (hq : a_rq a_tb h) (hs : s < 2 ^ mem) (fd : fD h Q (iF (fun k => xg 0 h.2.1 51 k) (fun _ => true) d sc)) : ∃ r, xg none h.2.2.2 Q 1 = some r ∧ h.1[r]? = some (4, 64) ∧ hv h r s = cvB (fun k => xg 0 h.2.1 51 k) (fun k => xg 0 h.2.1 44 k) mem sc d s := by
  have p12 : 2 ^ mem ≤ 4096 := show 2 ^ mem ≤ 2 ^ 12 from Nat.pow_le_pow_right (by decide) m12
  unfold cvB
  rcases fd with ⟨f0, ⟨f1, f2, f3⟩ | ⟨j, f1, f2, f3⟩⟩
  · refine ⟨12, by rw [f2]; exact u3, hq.2.1 12 _ rfl, ?_⟩
    rw [f1]
    exact un s (by omega)
  · obtain ⟨q, q72, qe, ql, q1, q2, q3, q4, q5, q6⟩ := S j (iF_lt f1)
    rw [q1] at f2
    obtain rfl : q = Q := Option.some.inj f2
    refine ⟨q + 1, q2, (st_sh hi q72 qe ql).2, ?_⟩
    rw [f1]
    show hv h (q + 1) s = decide (xg 0 h.2.1 44 (4096 * j + s) = 1)
    rw [← q6 s hs]
    cases hv h (q + 1) s <;> rfl
/-- what the reference's inForce answers -/
def oN (o : Option Nat) : Int32 := match o with
  | none => Int32.ofInt (-1)
  | some k => nI k
set_option maxRecDepth 100000 in
set_option maxHeartbeats 4000000 in
theorem if10_lp {h : xh_H} {sc : Nat} {FR TD : Nat → Int32} {d t : Int32} (e33 : xg 0 h.2.1 39 33 = nI sc) (sc8 : sc ≤ 8) (hF : ∀ k, k < sc → xg 0 h.2.1 51 k = FR k) (hT : ∀ k, k < sc → xg 0 h.2.1 52 k = TD k) (hq : a_rq a_tb h) : ∀ (f i : Nat), i ≤ sc → xq f xi_X10_inForce xmi_X10_inForce 5 [(0, .ref 39), (1, .int d), (2, .int t), (3, .int (oN (iF FR (fun k => !xe_c .gt (TD k) t) d i))), (4, .int (nI i))] [] h (fun v h' => h = h' ∧ v = some (.int (oN (iF FR (fun k => !xe_c .gt (TD k) t) d sc)))) := by
  intro f
  induction f with
  | zero => intros; exact xq_0
  | succ f ih =>
    intro i hi'
    by_cases e : i = sc
    · refine xq_m 67 [] [] [.int (oN (iF FR (fun k => !xe_c .gt (TD k) t) d i))] h [true] 6 hq rfl ⟨(show xe_c .ge (nI i) (xg 0 h.2.1 39 33) = true by rw [e33, e]; exact decide_eq_true (Int32.le_refl _)), trivial⟩ (fun _ => ?_)
      rw [e]
      exact xq_ret rfl rfl rfl ⟨rfl, rfl⟩
    · have il : i < sc := by omega
      have r52 : xg 0 h.2.1 52 (nI i).toNatClampNeg = TD i := by rw [nI_clamp (by omega)]; exact hT i il
      have r51 : xg 0 h.2.1 51 (nI i).toNatClampNeg = FR i := by rw [nI_clamp (by omega)]; exact hF i il
      have g0 : xe_c .ge (nI i) (xg 0 h.2.1 39 33) = false := by rw [e33]; exact nge_f (by omega) (by omega) il
      have nx : nI i + Int32.ofInt 1 = nI (i + 1) := nI_1 i
      have EU : iF FR (fun k => !xe_c .gt (TD k) t) d (i + 1) = (match iF FR (fun k => !xe_c .gt (TD k) t) d i with
        | none => if (!xe_c .gt (TD i) t && !xe_c .gt (FR i) d) = true then some i else none
        | some j => if (!xe_c .gt (TD i) t && (!xe_c .gt (FR i) d && !xe_c .lt (FR i) (FR j))) = true then some i else some j) := rfl
      cases c1 : xe_c .gt (TD i) t with
      | true =>
        refine xq_m 5 [0, 1, 2, 3, 4] [(0, .ref 39), (1, .int d), (2, .int t), (3, .int (oN (iF FR (fun k => !xe_c .gt (TD k) t) d i))), (4, .int ((nI i) + Int32.ofInt 1))] [] h [false, true] 14 hq rfl ⟨g0, (show xe_c .gt (xg 0 h.2.1 52 (nI i).toNatClampNeg) t = true by rw [r52]; exact c1), trivial⟩ (fun _ => ?_)
        rw [nx, show iF FR (fun k => !xe_c .gt (TD k) t) d i = iF FR (fun k => !xe_c .gt (TD k) t) d (i + 1) from by rw [EU]; cases iF FR (fun k => !xe_c .gt (TD k) t) d i <;> (dsimp only; rw [c1]; rfl)]
        exact ih (i + 1) il
      | false =>
        cases c2 : xe_c .gt (FR i) d with
        | true =>
          refine xq_m 5 [0, 1, 2, 3, 4] [(0, .ref 39), (1, .int d), (2, .int t), (3, .int (oN (iF FR (fun k => !xe_c .gt (TD k) t) d i))), (4, .int ((nI i) + Int32.ofInt 1))] [] h [false, false, true] 20 hq rfl ⟨g0, (show xe_c .gt (xg 0 h.2.1 52 (nI i).toNatClampNeg) t = false by rw [r52]; exact c1), (show xe_c .gt (xg 0 h.2.1 51 (nI i).toNatClampNeg) d = true by rw [r51]; exact c2), trivial⟩ (fun _ => ?_)
          rw [nx, show iF FR (fun k => !xe_c .gt (TD k) t) d i = iF FR (fun k => !xe_c .gt (TD k) t) d (i + 1) from by rw [EU]; cases iF FR (fun k => !xe_c .gt (TD k) t) d i <;> (dsimp only; rw [c1, c2]; rfl)]
          exact ih (i + 1) il
        | false =>
          cases hI : iF FR (fun k => !xe_c .gt (TD k) t) d i with
          | none =>
            refine xq_m 5 [0, 1, 2, 3, 4] [(0, .ref 39), (1, .int d), (2, .int t), (3, .int (nI i)), (4, .int ((nI i) + Int32.ofInt 1))] [] h [false, false, false, true] 24 hq rfl ⟨g0, (show xe_c .gt (xg 0 h.2.1 52 (nI i).toNatClampNeg) t = false by rw [r52]; exact c1), (show xe_c .gt (xg 0 h.2.1 51 (nI i).toNatClampNeg) d = false by rw [r51]; exact c2), (show xe_c .eq (Int32.ofInt (-1)) (Int32.ofInt (-1)) = true from rfl), trivial⟩ (fun _ => ?_)
            rw [nx]
            have e2 : iF FR (fun k => !xe_c .gt (TD k) t) d (i + 1) = some i := by rw [EU, hI]; dsimp only; rw [c1, c2]; rfl
            have r := ih (i + 1) il
            rw [e2] at r
            exact r
          | some j =>
            have jl := iF_lt hI
            have r5j : xg 0 h.2.1 51 (nI j).toNatClampNeg = FR j := by rw [nI_clamp (by omega)]; exact hF j (by omega)
            have n1 : xe_c .eq (nI j) (Int32.ofInt (-1)) = false := decide_eq_false (fun z => nIm1 (by omega) z)
            cases c3 : xe_c .lt (FR i) (FR j) with
            | true =>
              refine xq_m 5 [0, 1, 2, 3, 4] [(0, .ref 39), (1, .int d), (2, .int t), (3, .int (nI j)), (4, .int ((nI i) + Int32.ofInt 1))] [] h [false, false, false, false, true] 31 hq rfl ⟨g0, (show xe_c .gt (xg 0 h.2.1 52 (nI i).toNatClampNeg) t = false by rw [r52]; exact c1), (show xe_c .gt (xg 0 h.2.1 51 (nI i).toNatClampNeg) d = false by rw [r51]; exact c2), n1, (show xe_c .lt (xg 0 h.2.1 51 (nI i).toNatClampNeg) (xg 0 h.2.1 51 (nI j).toNatClampNeg) = true by rw [r51, r5j]; exact c3), trivial⟩ (fun _ => ?_)
              rw [nx]
              have e2 : iF FR (fun k => !xe_c .gt (TD k) t) d (i + 1) = some j := by rw [EU, hI]; dsimp only; rw [c1, c2, c3]; rfl
              have r := ih (i + 1) il
              rw [e2] at r
              exact r
            | false =>
              refine xq_m 5 [0, 1, 2, 3, 4] [(0, .ref 39), (1, .int d), (2, .int t), (3, .int (nI i)), (4, .int ((nI i) + Int32.ofInt 1))] [] h [false, false, false, false, false] 36 hq rfl ⟨g0, (show xe_c .gt (xg 0 h.2.1 52 (nI i).toNatClampNeg) t = false by rw [r52]; exact c1), (show xe_c .gt (xg 0 h.2.1 51 (nI i).toNatClampNeg) d = false by rw [r51]; exact c2), n1, (show xe_c .lt (xg 0 h.2.1 51 (nI i).toNatClampNeg) (xg 0 h.2.1 51 (nI j).toNatClampNeg) = false by rw [r51, r5j]; exact c3), trivial⟩ (fun _ => ?_)
              rw [nx]
              have e2 : iF FR (fun k => !xe_c .gt (TD k) t) d (i + 1) = some i := by rw [EU, hI]; dsimp only; rw [c1, c2, c3]; rfl
              have r := ih (i + 1) il
              rw [e2] at r
              exact r
set_option maxRecDepth 100000 in
/-- X10.inForce -/
theorem if10_q {f : Nat} {h : xh_H} {sc : Nat} {FR TD : Nat → Int32} {d t : Int32} (e33 : xg 0 h.2.1 39 33 = nI sc) (sc8 : sc ≤ 8) (hF : ∀ k, k < sc → xg 0 h.2.1 51 k = FR k) (hT : ∀ k, k < sc → xg 0 h.2.1 52 k = TD k) (hq : a_rq a_tb h) : xq f xi_X10_inForce xmi_X10_inForce 0 [(0, .ref 39), (1, .int d), (2, .int t)] [] h (fun v h' => h = h' ∧ v = some (.int (oN (iF FR (fun k => !xe_c .gt (TD k) t) d sc)))) := by
  refine xq_n 5 [0, 1, 2, 3, 4] [(0, .ref 39), (1, .int d), (2, .int t), (3, .int (Int32.ofInt (-1))), (4, .int (Int32.ofInt 0))] [] h [] 6 hq rfl trivial (fun _ => ?_)
  exact if10_lp e33 sc8 hF hT hq f 0 (Nat.zero_le _)
set_option maxRecDepth 100000 in
set_option maxHeartbeats 4000000 in
/-- X10.carriesBy -/
theorem cb10_q {f : Nat} {h : xh_H} {mem s : Nat} {o : Option Nat} {RW : Nat → Int32} (e4 : xg 0 h.2.1 39 4 = nI mem) (m12 : mem ≤ 12) (hs : s < 4096) (ho : ∀ k, o = some k → k < 8 ∧ ∃ b : Bool, RW (4096 * k + s) = bl b ∧ xg 0 h.2.1 44 (4096 * k + s) = bl b) (hq : a_rq a_tb h) : xq f xi_X10_carriesBy xmi_X10_carriesBy 0 [(0, .ref 39), (1, .int (oN o)), (2, .int (nI s))] [] h (fun v h' => h = h' ∧ v = some (.int (bl (cvo RW mem s o)))) := by
  have p12 : 2 ^ mem ≤ 4096 := show 2 ^ mem ≤ 2 ^ 12 from Nat.pow_le_pow_right (by decide) m12
  have p0 := Nat.two_pow_pos mem
  cases o with
  | none =>
    have em : Int32.ofInt 1 <<< (xg 0 h.2.1 39 4 &&& 31) - Int32.ofInt 1 = nI (2 ^ mem - 1) := by rw [e4, sh1 mem (by omega)]; exact nI_sub (b := 1) (by omega)
    by_cases z : s = 2 ^ mem - 1
    · refine xq_n 37 [] [] [.int (Int32.ofInt 1)] h [false, false] 20 hq rfl ⟨(show xe_c .ne (Int32.ofInt (-1)) (Int32.ofInt (-1)) = false from rfl), (show xe_c .ne (nI s) (Int32.ofInt 1 <<< (xg 0 h.2.1 39 4 &&& 31) - Int32.ofInt 1) = false by rw [em, z]; show (!decide (nI (2 ^ mem - 1) = nI (2 ^ mem - 1))) = false; rw [decide_eq_true rfl]; rfl), trivial⟩ (fun _ => ?_)
      exact xq_ret rfl rfl rfl ⟨rfl, by unfold cvo; dsimp only; rw [decide_eq_true z]; rfl⟩
    · refine xq_n 37 [] [] [.int (Int32.ofInt 0)] h [false, true] 20 hq rfl ⟨(show xe_c .ne (Int32.ofInt (-1)) (Int32.ofInt (-1)) = false from rfl), (show xe_c .ne (nI s) (Int32.ofInt 1 <<< (xg 0 h.2.1 39 4 &&& 31) - Int32.ofInt 1) = true by rw [em]; show (!decide (nI s = nI (2 ^ mem - 1))) = true; rw [decide_eq_false (fun y => z (by have y2 := congrArg Int32.toInt y; rw [nI_toInt (by omega), nI_toInt (by omega)] at y2; omega))]; rfl), trivial⟩ (fun _ => ?_)
      exact xq_ret rfl rfl rfl ⟨rfl, by unfold cvo; dsimp only; rw [decide_eq_false z]; rfl⟩
  | some k =>
    obtain ⟨k8, b, e1, e2⟩ := ho k rfl
    refine xq_n 37 [] [] [.int (xg 0 h.2.1 44 ((4096 * (nI k)) + (nI s)).toNatClampNeg)] h [true] 12 hq rfl ⟨(show xe_c .ne (nI k) (Int32.ofInt (-1)) = true by show (!decide (nI k = Int32.ofInt (-1))) = true; rw [decide_eq_false (nIm1 (by omega))]; rfl), trivial⟩ (fun _ => ?_)
    rw [show 4096 * nI k + nI s = nI (4096 * k + s) from idx_a, nI_clamp (by omega), e2]
    exact xq_ret rfl rfl rfl ⟨rfl, by unfold cvo; dsimp only; rw [e1]; cases b <;> rfl⟩
end XIF
