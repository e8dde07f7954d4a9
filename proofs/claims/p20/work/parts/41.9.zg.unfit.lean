section XUF
theorem iF_w {FR : Nat → Int32} {ok : Nat → Bool} {d : Int32} : ∀ {n : Nat}, (∀ k, k < n → xe_c .gt (FR k) d = false → ok k = true) → iF FR ok d n = iF FR (fun _ => true) d n := by
  intro n
  induction n with
  | zero => intro _; rfl
  | succ n ih =>
    intro e
    have e1 := ih (fun k hk' => e k (by omega))
    have e2 := e n (by omega)
    unfold iF
    rw [e1]
    cases c : xe_c .gt (FR n) d with
    | true => simp only [Bool.not_true, Bool.and_false, Bool.false_and]
    | false => rw [e2 c]
/-- the first vote that doesn't fit -/
def ufG (D S P : Nat → Int32) (cv : Int32 → Nat → Bool) (t : Int32) : Nat → Nat → Int32
  | 0, _ => Int32.ofInt (-1)
  | n + 1, i => cond (xe_c .gt (D i) t) (ufG D S P cv t n (i + 1)) (cond (xe_c .eq (bl (cv (D i) (S i).toInt.toNat)) (P i)) (ufG D S P cv t n (i + 1)) (nI i))
set_option maxRecDepth 100000 in
set_option maxHeartbeats 4000000 in
theorem uf9_lp {vc mem sc : Nat} {t : Int32} {D S P : Nat → Int32} {h : xh_H} (hi : a_inv a_tb h) (e9 : xg 0 h.2.1 0 9 = nI mem) (m12 : mem ≤ 12) (e8 : xg 0 h.2.1 0 8 = nI sc) (sc8 : sc ≤ 8) (si : SI h) (vc6 : vc ≤ 60) (e35 : xg 0 h.2.1 35 3 = nI vc) (hA : ∀ k, k < vc → xg 0 h.2.1 36 k = S k ∧ xg 0 h.2.1 37 k = D k ∧ xg 0 h.2.1 38 k = P k) (hS : ∀ k, k < vc → ∃ s, S k = nI s ∧ s < 2 ^ mem) (hq : a_rq a_tb h) : ∀ (f i : Nat), i ≤ vc → xq f xi_X9_unfit xmi_X9_unfit 2 [(0, .ref 0), (1, .int t), (2, .int (nI i))] [] h (fun v h' => v = some (.int (ufG D S P (cvB (fun k => xg 0 h.2.1 51 k) (fun k => xg 0 h.2.1 44 k) mem sc) t (vc - i) i))) := by
  obtain ⟨⟨u1, u2, u3⟩, si⟩ := si
  obtain ⟨SS, un⟩ := si mem sc e9 m12 e8 sc8
  have p12 : 2 ^ mem ≤ 4096 := show 2 ^ mem ≤ 2 ^ 12 from Nat.pow_le_pow_right (by decide) m12
  intro f
  induction f with
  | zero => intros; exact xq_0
  | succ f ih =>
    intro i il
    by_cases e : i = vc
    · refine xq_m 66 [] [] [.int (Int32.ofInt (-1))] h [true] 7 hq rfl ⟨(show xe_c .ge (nI i) (xg 0 h.2.1 35 3) = true by rw [e35, e]; exact decide_eq_true (Int32.le_refl _)), trivial⟩ (fun _ => ?_)
      rw [e, Nat.sub_self]
      exact xq_ret rfl rfl rfl rfl
    · have il : i < vc := by omega
      obtain ⟨a1, a2, a3⟩ := hA i il
      have g0 : xe_c .ge (nI i) (xg 0 h.2.1 35 3) = false := by rw [e35]; exact nge_f (by omega) (by omega) il
      have ek : (nI i).toNatClampNeg = i := nI_clamp (by omega)
      have nx : nI i + Int32.ofInt 1 = nI (i + 1) := nI_1 i
      rw [show vc - i = (vc - (i + 1)) + 1 by omega]
      unfold ufG
      cases c1 : xe_c .gt (D i) t with
      | true =>
        refine xq_m 2 [0, 1, 2] [(0, .ref 0), (1, .int t), (2, .int ((nI i) + Int32.ofInt 1))] [] h [false, true] 18 hq rfl ⟨g0, (show xe_c .gt (xg 0 h.2.1 37 (nI i).toNatClampNeg) t = true by rw [ek, a2]; exact c1), trivial⟩ (fun _ => ?_)
        rw [nx]
        exact ih (i + 1) il
      | false =>
        obtain ⟨s, es, hs⟩ := hS i il
        have sn : (S i).toInt.toNat = s := by rw [es, nI_toInt (by omega)]; omega
        refine xq_m 30 [0, 1, 2] [(0, .ref 0), (1, .int t), (2, .int (nI i))] [.int (xg 0 h.2.1 37 (nI i).toNatClampNeg), .ref 0] h [false, false] 18 hq rfl ⟨g0, (show xe_c .gt (xg 0 h.2.1 37 (nI i).toNatClampNeg) t = false by rw [ek, a2]; exact c1), trivial⟩ (fun _ => ?_)
        rw [ek, a2]
        refine xq_run hq rfl rfl (if9_q hi e8 sc8 u1 u2 SS hq) ?_
        rintro v h1 ⟨rfl, Q, rfl, fd⟩
        obtain ⟨r, g1, g2, g3⟩ := hv_cv hi m12 SS un u3 hq hs fd
        refine xq_n 42 [0, 1, 2] [(0, .ref 0), (1, .int t), (2, .int (nI i))] [.int (xg 0 h.2.1 36 (nI i).toNatClampNeg), .ref Q] h [] 7 hq rfl trivial (fun _ => ?_)
        rw [ek, a1, es]
        refine xq_cr (As := [.ref Q, .int (nI s)]) (mj := xmi_X7_holds) (q := []) rfl rfl (fun _ _ => rfl) (xa_cs_ok (d := 0) (pc := 0) (lv := []) (nL := 0) fd.1 rfl).1 (fun f => xq_of (d := 0) ⟨_, rfl⟩ (ho_run hq fd.1 g1 g2 (by omega))) ?_
        rintro v h1 ⟨rfl, rfl⟩
        rw [g3, ← es, sn]
        cases c2 : xe_c .eq (bl (cvB (fun k => xg 0 h.2.1 51 k) (fun k => xg 0 h.2.1 44 k) mem sc (D i) s)) (P i) with
        | true =>
          refine xq_n 2 [0, 1, 2] [(0, .ref 0), (1, .int t), (2, .int ((nI i) + Int32.ofInt 1))] [] h [true] 10 hq rfl ⟨(show xe_c .eq (bl (cvB (fun k => xg 0 h.2.1 51 k) (fun k => xg 0 h.2.1 44 k) mem sc (D i) s)) (xg 0 h.2.1 38 (nI i).toNatClampNeg) = true by rw [ek, a3]; exact c2), trivial⟩ (fun _ => ?_)
          rw [nx]
          exact ih (i + 1) il
        | false =>
          refine xq_n 58 [] [] [.int (nI i)] h [false] 9 hq rfl ⟨(show xe_c .eq (bl (cvB (fun k => xg 0 h.2.1 51 k) (fun k => xg 0 h.2.1 44 k) mem sc (D i) s)) (xg 0 h.2.1 38 (nI i).toNatClampNeg) = false by rw [ek, a3]; exact c2), trivial⟩ (fun _ => ?_)
          exact xq_ret rfl rfl rfl rfl
set_option maxRecDepth 100000 in
theorem uf9_q {f vc mem sc : Nat} {t : Int32} {D S P : Nat → Int32} {h : xh_H} (hi : a_inv a_tb h) (e9 : xg 0 h.2.1 0 9 = nI mem) (m12 : mem ≤ 12) (e8 : xg 0 h.2.1 0 8 = nI sc) (sc8 : sc ≤ 8) (si : SI h) (vc6 : vc ≤ 60) (e35 : xg 0 h.2.1 35 3 = nI vc) (hA : ∀ k, k < vc → xg 0 h.2.1 36 k = S k ∧ xg 0 h.2.1 37 k = D k ∧ xg 0 h.2.1 38 k = P k) (hS : ∀ k, k < vc → ∃ s, S k = nI s ∧ s < 2 ^ mem) (hq : a_rq a_tb h) : xq f xi_X9_unfit xmi_X9_unfit 0 [(0, .ref 0), (1, .int t)] [] h (fun v h' => v = some (.int (ufG D S P (cvB (fun k => xg 0 h.2.1 51 k) (fun k => xg 0 h.2.1 44 k) mem sc) t vc 0))) := by
  refine xq_n 2 [0, 1, 2] [(0, .ref 0), (1, .int t), (2, .int (Int32.ofInt 0))] [] h [] 4 hq rfl trivial (fun _ => ?_)
  exact uf9_lp hi e9 m12 e8 sc8 si vc6 e35 hA hS hq f 0 (Nat.zero_le _)
set_option maxRecDepth 100000 in
set_option maxHeartbeats 4000000 in
theorem uf10_lp {vc mem sc : Nat} {t : Int32} {D S P FR TD RW : Nat → Int32} {h : xh_H} (e4 : xg 0 h.2.1 39 4 = nI mem) (m12 : mem ≤ 12) (e33 : xg 0 h.2.1 39 33 = nI sc) (sc8 : sc ≤ 8) (hF : ∀ k, k < sc → xg 0 h.2.1 51 k = FR k) (hT : ∀ k, k < sc → xg 0 h.2.1 52 k = TD k ∧ (TD k).toInt ≤ (FR k).toInt) (hR : ∀ k s, k < sc → s < 2 ^ mem → ∃ b : Bool, RW (4096 * k + s) = bl b ∧ xg 0 h.2.1 44 (4096 * k + s) = bl b) (vc6 : vc ≤ 60) (e63 : xg 0 h.2.1 39 63 = nI vc) (hA : ∀ k, k < vc → xg 0 h.2.1 68 k = S k ∧ xg 0 h.2.1 69 k = D k ∧ xg 0 h.2.1 70 k = P k) (hS : ∀ k, k < vc → ∃ s, S k = nI s ∧ s < 2 ^ mem) (hq : a_rq a_tb h) : ∀ (f i : Nat), i ≤ vc → xq f xi_X10_unfit xmi_X10_unfit 7 [(0, .ref 39), (1, .int t), (2, .int (nI i))] [] h (fun v h' => v = some (.int (ufG D S P (cvB FR RW mem sc) t (vc - i) i))) := by
  have p12 : 2 ^ mem ≤ 4096 := show 2 ^ mem ≤ 2 ^ 12 from Nat.pow_le_pow_right (by decide) m12
  intro f
  induction f with
  | zero => intros; exact xq_0
  | succ f ih =>
    intro i il
    by_cases e : i = vc
    · refine xq_m 64 [] [] [.int (Int32.ofInt (-1))] h [true] 6 hq rfl ⟨(show xe_c .ge (nI i) (xg 0 h.2.1 39 63) = true by rw [e63, e]; exact decide_eq_true (Int32.le_refl _)), trivial⟩ (fun _ => ?_)
      rw [e, Nat.sub_self]
      exact xq_ret rfl rfl rfl rfl
    · have il : i < vc := by omega
      obtain ⟨a1, a2, a3⟩ := hA i il
      have g0 : xe_c .ge (nI i) (xg 0 h.2.1 39 63) = false := by rw [e63]; exact nge_f (by omega) (by omega) il
      have ek : (nI i).toNatClampNeg = i := nI_clamp (by omega)
      have nx : nI i + Int32.ofInt 1 = nI (i + 1) := nI_1 i
      rw [show vc - i = (vc - (i + 1)) + 1 by omega]
      unfold ufG
      cases c1 : xe_c .gt (D i) t with
      | true =>
        refine xq_m 7 [0, 1, 2] [(0, .ref 39), (1, .int t), (2, .int ((nI i) + Int32.ofInt 1))] [] h [false, true] 15 hq rfl ⟨g0, (show xe_c .gt (xg 0 h.2.1 69 (nI i).toNatClampNeg) t = true by rw [ek, a2]; exact c1), trivial⟩ (fun _ => ?_)
        rw [nx]
        exact ih (i + 1) il
      | false =>
        obtain ⟨s, es, hs⟩ := hS i il
        have sn : (S i).toInt.toNat = s := by rw [es, nI_toInt (by omega)]; omega
        refine xq_m 34 [0, 1, 2] [(0, .ref 39), (1, .int t), (2, .int (nI i))] [.int t, .int (xg 0 h.2.1 69 (nI i).toNatClampNeg), .ref 39, .ref 39] h [false, false] 19 hq rfl ⟨g0, (show xe_c .gt (xg 0 h.2.1 69 (nI i).toNatClampNeg) t = false by rw [ek, a2]; exact c1), trivial⟩ (fun _ => ?_)
        rw [ek, a2]
        refine xq_run hq rfl rfl (if10_q (d := D i) (t := t) (TD := TD) e33 sc8 hF (fun k hk' => (hT k hk').1) hq) ?_
        rintro v h1 ⟨rfl, rfl⟩
        rw [iF_w (ok := fun k => !xe_c .gt (TD k) t) (fun k hk' z => by
          have b1 : (FR k).toInt ≤ (D i).toInt := a_ce (a_neg_ok z)
          have b2 : (D i).toInt ≤ t.toInt := a_ce (a_neg_ok c1)
          have b3 := (hT k hk').2
          rw [show xe_c .gt (TD k) t = false from xgt_f (by omega)]
          rfl)]
        refine xq_n 43 [0, 1, 2] [(0, .ref 39), (1, .int t), (2, .int (nI i))] [.int (xg 0 h.2.1 68 (nI i).toNatClampNeg), .int (oN (iF FR (fun _ => true) (D i) sc)), .ref 39] h [] 6 hq rfl trivial (fun _ => ?_)
        rw [ek, a1, es]
        refine xq_run hq rfl rfl (cb10_q (RW := RW) e4 m12 (by omega) (fun k e => ⟨by have := iF_lt e; omega, hR k s (iF_lt e) hs⟩) hq) ?_
        rintro v h1 ⟨rfl, rfl⟩
        rw [← es, sn, show cvo RW mem s (iF FR (fun _ => true) (D i) sc) = cvB FR RW mem sc (D i) s from rfl]
        cases c2 : xe_c .eq (bl (cvB FR RW mem sc (D i) s)) (P i) with
        | true =>
          refine xq_n 7 [0, 1, 2] [(0, .ref 39), (1, .int t), (2, .int ((nI i) + Int32.ofInt 1))] [] h [true] 9 hq rfl ⟨(show xe_c .eq (bl (cvB FR RW mem sc (D i) s)) (xg 0 h.2.1 70 (nI i).toNatClampNeg) = true by rw [ek, a3]; exact c2), trivial⟩ (fun _ => ?_)
          rw [nx]
          exact ih (i + 1) il
        | false =>
          refine xq_n 56 [] [] [.int (nI i)] h [false] 8 hq rfl ⟨(show xe_c .eq (bl (cvB FR RW mem sc (D i) s)) (xg 0 h.2.1 70 (nI i).toNatClampNeg) = false by rw [ek, a3]; exact c2), trivial⟩ (fun _ => ?_)
          exact xq_ret rfl rfl rfl rfl
set_option maxRecDepth 100000 in
theorem uf10_q {f vc mem sc : Nat} {t : Int32} {D S P FR TD RW : Nat → Int32} {h : xh_H} (e4 : xg 0 h.2.1 39 4 = nI mem) (m12 : mem ≤ 12) (e33 : xg 0 h.2.1 39 33 = nI sc) (sc8 : sc ≤ 8) (hF : ∀ k, k < sc → xg 0 h.2.1 51 k = FR k) (hT : ∀ k, k < sc → xg 0 h.2.1 52 k = TD k ∧ (TD k).toInt ≤ (FR k).toInt) (hR : ∀ k s, k < sc → s < 2 ^ mem → ∃ b : Bool, RW (4096 * k + s) = bl b ∧ xg 0 h.2.1 44 (4096 * k + s) = bl b) (vc6 : vc ≤ 60) (e63 : xg 0 h.2.1 39 63 = nI vc) (hA : ∀ k, k < vc → xg 0 h.2.1 68 k = S k ∧ xg 0 h.2.1 69 k = D k ∧ xg 0 h.2.1 70 k = P k) (hS : ∀ k, k < vc → ∃ s, S k = nI s ∧ s < 2 ^ mem) (hq : a_rq a_tb h) : xq f xi_X10_unfit xmi_X10_unfit 0 [(0, .ref 39), (1, .int t)] [] h (fun v h' => v = some (.int (ufG D S P (cvB FR RW mem sc) t vc 0))) := by
  refine xq_n 7 [0, 1, 2] [(0, .ref 39), (1, .int t), (2, .int (Int32.ofInt 0))] [] (xh_ui h 39 0 (Int32.ofInt 0)) [] 7 hq rfl trivial (fun _ => ?_)
  exact uf10_lp ((gx_k (by decide)).trans e4) m12 ((gx_k (by decide)).trans e33) sc8 (fun k hk' => (gx_o (by decide)).trans (hF k hk')) (fun k hk' => ⟨(gx_o (by decide)).trans (hT k hk').1, (hT k hk').2⟩) (fun k s h1 h2 => by obtain ⟨b, b1, b2⟩ := hR k s h1 h2; exact ⟨b, b1, (gx_o (by decide)).trans b2⟩) vc6 ((gx_k (by decide)).trans e63) (fun k hk' => ⟨(gx_o (by decide)).trans (hA k hk').1, (gx_o (by decide)).trans (hA k hk').2.1, (gx_o (by decide)).trans (hA k hk').2.2⟩) hS (a_rq_ui hq) f 0 (Nat.zero_le _)
end XUF
