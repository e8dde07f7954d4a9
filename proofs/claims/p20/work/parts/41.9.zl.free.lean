section XFR
set_option maxRecDepth 100000 in
theorem iop9_q {f : Nat} {x : Int32} {h : xh_H} (hq : a_rq a_tb h) : xq f xi_X0_isOption xmi_X0_isOption 0 [(0, .int x)] [] h (fun v h' => h = h' ∧ v = some (.int (bl (!xe_c .lt x 0 && !xe_c .ge x 7)))) := by
  cases c1 : xe_c .lt x 0 with
  | true =>
    refine xq_n 15 [] [] [.int (Int32.ofInt 0)] h [true] 5 hq rfl ⟨c1, trivial⟩ (fun _ => ?_)
    exact xq_ret rfl rfl rfl ⟨rfl, rfl⟩
  | false =>
    cases c2 : xe_c .ge x 7 with
    | true =>
      refine xq_n 15 [] [] [.int (Int32.ofInt 0)] h [false, true] 8 hq rfl ⟨c1, c2, trivial⟩ (fun _ => ?_)
      exact xq_ret rfl rfl rfl ⟨rfl, rfl⟩
    | false =>
      refine xq_n 15 [] [] [.int (Int32.ofInt 1)] h [false, false] 9 hq rfl ⟨c1, c2, trivial⟩ (fun _ => ?_)
      exact xq_ret rfl rfl rfl ⟨rfl, rfl⟩
set_option maxRecDepth 100000 in
theorem iop10_q {f : Nat} {x : Int32} {h : xh_H} (hq : a_rq a_tb h) : xq f xi_X10_isOption xmi_X10_isOption 0 [(0, .int x)] [] h (fun v h' => h = h' ∧ v = some (.int (bl (!xe_c .lt x 0 && !xe_c .ge x 7)))) := by
  cases c1 : xe_c .lt x 0 with
  | true =>
    refine xq_n 15 [] [] [.int (Int32.ofInt 0)] h [true] 5 hq rfl ⟨c1, trivial⟩ (fun _ => ?_)
    exact xq_ret rfl rfl rfl ⟨rfl, rfl⟩
  | false =>
    cases c2 : xe_c .ge x 7 with
    | true =>
      refine xq_n 15 [] [] [.int (Int32.ofInt 0)] h [false, true] 8 hq rfl ⟨c1, c2, trivial⟩ (fun _ => ?_)
      exact xq_ret rfl rfl rfl ⟨rfl, rfl⟩
    | false =>
      refine xq_n 15 [] [] [.int (Int32.ofInt 1)] h [false, false] 9 hq rfl ⟨c1, c2, trivial⟩ (fun _ => ?_)
      exact xq_ret rfl rfl rfl ⟨rfl, rfl⟩
theorem iop_n {x : Int32} (h : (!xe_c .lt x 0 && !xe_c .ge x 7) = true) : ∃ s, x = nI s ∧ s < 7 ∧ x.toInt.toNat = s := by
  simp only [Bool.and_eq_true, Bool.not_eq_true'] at h
  have b1 : (0 : Int) ≤ x.toInt := a_ce (a_neg_ok h.1)
  have b2 : x.toInt < (7 : Int) := a_ce (a_neg_ok h.2)
  exact ⟨x.toInt.toNat, en_n (t := 0) (by omega), by omega, rfl⟩
/-- what beats answers -/
def beA (B : Nat → Nat → Bool) (x y : Int32) : Int32 := cond ((!xe_c .lt x 0 && !xe_c .ge x 7) && ((!xe_c .lt y 0 && !xe_c .ge y 7) && xe_c .ne x y)) (bl (B x.toInt.toNat y.toInt.toNat)) (Int32.ofInt (-1))
set_option maxRecDepth 100000 in
set_option maxHeartbeats 4000000 in
theorem be9_q {f mem sc : Nat} {x y : Int32} {PL : Nat → Int32} {d : Int32} {h : xh_H} (hi : a_inv a_tb h) (e9 : xg 0 h.2.1 0 9 = nI mem) (m12 : mem ≤ 12) (e8 : xg 0 h.2.1 0 8 = nI sc) (sc8 : sc ≤ 8) (e10 : xg 0 h.2.1 0 10 = d) (si : SI h) (hP : ∀ k, k < 84 → xg 0 h.2.1 30 k = PL k) (hq : a_rq a_tb h) : xq f xi_X9_beats xmi_X9_beats 0 [(0, .ref 0), (1, .int x), (2, .int y)] [] h (fun v h' => v = some (.int (beA (BT PL (cvB (fun k => xg 0 h.2.1 51 k) (fun k => xg 0 h.2.1 44 k) mem sc d) mem) x y))) := by
  obtain ⟨⟨u1, u2, u3⟩, si⟩ := si
  obtain ⟨SS, un⟩ := si mem sc e9 m12 e8 sc8
  have p12 : 2 ^ mem ≤ 4096 := show 2 ^ mem ≤ 2 ^ 12 from Nat.pow_le_pow_right (by decide) m12
  unfold beA
  refine xq_n 1 [0, 1, 2] [(0, .ref 0), (1, .int x), (2, .int y)] [.int x] h [] 3 hq rfl trivial (fun _ => ?_)
  refine xq_run hq rfl rfl (iop9_q hq) ?_
  rintro v h1 ⟨rfl, rfl⟩
  cases hx : (!xe_c .lt x 0 && !xe_c .ge x 7) with
  | false =>
    refine xq_n 20 [] [] [.int (Int32.ofInt (-1))] h [true] 4 hq rfl ⟨rfl, trivial⟩ (fun _ => ?_)
    exact xq_ret rfl rfl rfl rfl
  | true =>
    refine xq_n 8 [0, 1, 2] [(0, .ref 0), (1, .int x), (2, .int y)] [.int y] h [false] 4 hq rfl ⟨rfl, trivial⟩ (fun _ => ?_)
    refine xq_run hq rfl rfl (iop9_q hq) ?_
    rintro v h1 ⟨rfl, rfl⟩
    cases hy : (!xe_c .lt y 0 && !xe_c .ge y 7) with
    | false =>
      refine xq_n 20 [] [] [.int (Int32.ofInt (-1))] h [true] 4 hq rfl ⟨rfl, trivial⟩ (fun _ => ?_)
      exact xq_ret rfl rfl rfl rfl
    | true =>
      cases hn : xe_c .ne x y with
      | false =>
        refine xq_n 20 [] [] [.int (Int32.ofInt (-1))] h [false, false] 7 hq rfl ⟨rfl, hn, trivial⟩ (fun _ => ?_)
        exact xq_ret rfl rfl rfl rfl
      | true =>
        obtain ⟨a, rfl, ha, ea⟩ := iop_n hx
        obtain ⟨b, rfl, hb, eb⟩ := iop_n hy
        rw [ea, eb]
        have nab : a ≠ b := fun z => by rw [z] at hn; exact absurd hn (by show ¬ (!decide (nI b = nI b)) = true; rw [decide_eq_true rfl]; decide)
        refine xq_n 26 [0, 1, 2] [(0, .ref 0), (1, .int (nI a)), (2, .int (nI b))] [.int (xg 0 h.2.1 0 10), .ref 0] h [false, true] 8 hq rfl ⟨rfl, hn, trivial⟩ (fun _ => ?_)
        rw [e10]
        refine xq_run hq rfl rfl (if9_q hi e8 sc8 u1 u2 SS hq) ?_
        rintro v h1 ⟨rfl, Q, rfl, fd⟩
        refine xq_n 39 [] [] [.int (xg 0 h.2.1 0 9), .int (nI b), .int (nI a), .ref 28, .ref Q] h [] 8 hq rfl trivial (fun _ => ?_)
        rw [e9]
        refine xq_run hq rfl rfl (who_q (PL := PL) m12 ha hb hP hq) ?_
        rintro v h1 ⟨rfl, rfl⟩
        have wl := wp_lt (PL := PL) (x := a) (y := b) mem
        obtain ⟨r, g1, g2, g3⟩ := hv_cv hi m12 SS un u3 hq wl fd
        refine xq_cr (As := [.ref Q, .int (nI (wp PL a b mem))]) (mj := xmi_X7_holds) (q := []) rfl rfl (fun _ _ => rfl) (xa_cs_ok (d := 0) (pc := 0) (lv := []) (nL := 0) fd.1 rfl).1 (fun f => xq_of (d := 0) ⟨_, rfl⟩ (ho_run hq fd.1 g1 g2 (by omega))) ?_
        rintro v h1 ⟨rfl, rfl⟩
        rw [g3]
        unfold BT
        rw [decide_eq_false nab]
        cases cvB (fun k => xg 0 h.2.1 51 k) (fun k => xg 0 h.2.1 44 k) mem sc d (wp PL a b mem) with
        | true =>
          refine xq_n 53 [] [] [.int (Int32.ofInt 1)] h [false] 5 hq rfl ⟨rfl, trivial⟩ (fun _ => ?_)
          exact xq_ret rfl rfl rfl rfl
        | false =>
          refine xq_n 53 [] [] [.int (Int32.ofInt 0)] h [true] 5 hq rfl ⟨rfl, trivial⟩ (fun _ => ?_)
          exact xq_ret rfl rfl rfl rfl
section
variable {f mem sc : Nat} {FR RW PL : Nat → Int32} {d : Int32} {h : xh_H}
set_option maxRecDepth 100000 in
set_option maxHeartbeats 4000000 in
theorem be10_q {x y : Int32} (m12 : mem ≤ 12) (e4 : xg 0 h.2.1 39 4 = nI mem) (e33 : xg 0 h.2.1 39 33 = nI sc) (sc8 : sc ≤ 8) (e3 : xg 0 h.2.1 39 3 = d) (hF : ∀ k, k < sc → xg 0 h.2.1 51 k = FR k) (hT : ∀ k, k < sc → (xg 0 h.2.1 52 k).toInt ≤ 999) (hR : ∀ k s, k < sc → s < 2 ^ mem → ∃ b : Bool, RW (4096 * k + s) = bl b ∧ xg 0 h.2.1 44 (4096 * k + s) = bl b) (hP : ∀ k, k < 84 → xg 0 h.2.1 62 k = PL k) (hq : a_rq a_tb h) : xq f xi_X10_beats xmi_X10_beats 0 [(0, .ref 39), (1, .int x), (2, .int y)] [] h (fun v h' => v = some (.int (beA (BT PL (cvB FR RW mem sc d) mem) x y))) := by
  unfold beA
  refine xq_n 6 [0, 1, 2] [(0, .ref 39), (1, .int x), (2, .int y)] [.int x] (xh_ui h 39 0 (Int32.ofInt 0)) [] 6 hq rfl trivial (fun _ => ?_)
  have hq : a_rq a_tb (xh_ui h 39 0 (Int32.ofInt 0)) := a_rq_ui hq
  have L := lop_q (f := f) (FR := FR) (RW := RW) (PL := PL) (h := xh_ui h 39 0 (Int32.ofInt 0)) m12 ((gx_k (by decide)).trans e4) ((gx_k (by decide)).trans e33) sc8 ((gx_k (by decide)).trans e3) (fun k hk' => (gx_o (by decide)).trans (hF k hk')) (fun k hk' => by rw [gx_o (by decide)]; exact hT k hk') (fun k s h1 h2 => by obtain ⟨b, b1, b2⟩ := hR k s h1 h2; exact ⟨b, b1, (gx_o (by decide)).trans b2⟩) (fun k hk' => (gx_o (by decide)).trans (hP k hk')) hq
  generalize xh_ui h 39 0 (Int32.ofInt 0) = h0 at hq L ⊢
  refine xq_run hq rfl rfl (iop10_q hq) ?_
  rintro v h1 ⟨rfl, rfl⟩
  cases hx : (!xe_c .lt x 0 && !xe_c .ge x 7) with
  | false =>
    refine xq_n 25 [] [] [.int (Int32.ofInt (-1))] h0 [true] 4 hq rfl ⟨rfl, trivial⟩ (fun _ => ?_)
    exact xq_ret rfl rfl rfl rfl
  | true =>
    refine xq_n 13 [0, 1, 2] [(0, .ref 39), (1, .int x), (2, .int y)] [.int y] h0 [false] 4 hq rfl ⟨rfl, trivial⟩ (fun _ => ?_)
    refine xq_run hq rfl rfl (iop10_q hq) ?_
    rintro v h1 ⟨rfl, rfl⟩
    cases hy : (!xe_c .lt y 0 && !xe_c .ge y 7) with
    | false =>
      refine xq_n 25 [] [] [.int (Int32.ofInt (-1))] h0 [true] 4 hq rfl ⟨rfl, trivial⟩ (fun _ => ?_)
      exact xq_ret rfl rfl rfl rfl
    | true =>
      cases hn : xe_c .ne x y with
      | false =>
        refine xq_n 25 [] [] [.int (Int32.ofInt (-1))] h0 [false, false] 7 hq rfl ⟨rfl, hn, trivial⟩ (fun _ => ?_)
        exact xq_ret rfl rfl rfl rfl
      | true =>
        obtain ⟨a, rfl, ha, ea⟩ := iop_n hx
        obtain ⟨b, rfl, hb, eb⟩ := iop_n hy
        rw [ea, eb]
        refine xq_n 27 [0, 1, 2] [(0, .ref 39), (1, .int (nI a)), (2, .int (nI b))] [.ref 39] h0 [false, true] 6 hq rfl ⟨rfl, hn, trivial⟩ (fun _ => ?_)
        refine xq_run hq rfl rfl L ?_
        rintro v h1 ⟨rfl, g1, w53, w63, w64⟩
        have hq := fx_q g1 hq
        have e1 : xg 0 h1.2.1 63 (7 * nI a + nI b).toNatClampNeg = bl (BT PL (cvB FR RW mem sc d) mem a b) := by rw [i7_b, nI_clamp (by omega)]; exact w63 a b ha hb
        cases cB : BT PL (cvB FR RW mem sc d) mem a b with
        | true =>
          refine xq_n 49 [] [] [.int (Int32.ofInt 1)] h1 [false] 12 hq rfl ⟨(show xe_c .eq (xg 0 h1.2.1 63 (7 * nI a + nI b).toNatClampNeg) 0 = false by rw [e1, cB]; rfl), trivial⟩ (fun _ => ?_)
          exact xq_ret rfl rfl rfl rfl
        | false =>
          refine xq_n 49 [] [] [.int (Int32.ofInt 0)] h1 [true] 12 hq rfl ⟨(show xe_c .eq (xg 0 h1.2.1 63 (7 * nI a + nI b).toNatClampNeg) 0 = true by rw [e1, cB]; rfl), trivial⟩ (fun _ => ?_)
          exact xq_ret rfl rfl rfl rfl
end
/-- nothing below x beats y -/
def nb (B : Nat → Nat → Bool) (y : Nat) : Nat → Bool
  | 0 => true
  | x + 1 => nb B y x && !B x y
theorem nb_step {B : Nat → Nat → Bool} {x : Nat} : nI (msk (fun y => nb B y x) 7) &&& (nI (msk (B x) 7) ^^^ Int32.ofInt (-1)) = nI (msk (fun y => nb B y (x + 1)) 7) := nI_andn (fun i hi => by
  rw [msk_tb, msk_tb, msk_tb]
  show ((decide (i < 7) && nb B i x) && !(decide (i < 7) && B x i)) = (decide (i < 7) && (nb B i x && !B x i))
  cases decide (i < 7) <;> cases nb B i x <;> cases B x i <;> rfl)
set_option maxRecDepth 100000 in
set_option maxHeartbeats 4000000 in
theorem unb_lp {B : Nat → Nat → Bool} {h : xh_H} (hB : ∀ x, x < 7 → xg 0 h.2.1 31 x = nI (msk (B x) 7)) (hq : a_rq a_tb h) : ∀ (n f x : Nat), x + n = 7 → xq f xi_X0_unbeaten xmi_X0_unbeaten 5 [(0, .ref 28), (1, .int (nI (msk (fun y => nb B y x) 7))), (2, .int (nI x))] [] h (fun v h' => h = h' ∧ v = some (.int (nI (msk (fun y => nb B y 7) 7)))) := by
  intro n
  induction n with
  | zero =>
    intro f x hn
    have e : x = 7 := by omega
    subst e
    refine xq_n 29 [] [] [.int (nI (msk (fun y => nb B y 7) 7))] h [true] 6 hq rfl ⟨rfl, trivial⟩ (fun _ => ?_)
    exact xq_ret rfl rfl rfl ⟨rfl, rfl⟩
  | succ n ih =>
    intro f x hn
    refine xq_n 5 [0, 1, 2] [(0, .ref 28), (1, .int ((nI (msk (fun y => nb B y x) 7)) &&& ((xg 0 h.2.1 31 (nI x).toNatClampNeg) ^^^ (Int32.ofInt (-1))))), (2, .int ((nI x) + Int32.ofInt 1))] [] h [false] 16 hq rfl ⟨(show xe_c .ge (nI x) 7 = false from nge_f (b := 7) (by omega) (by decide) (by omega)), trivial⟩ (fun _ => ?_)
    rw [show (nI x).toNatClampNeg = x from nI_clamp (by omega), hB x (by omega), nb_step, show nI x + Int32.ofInt 1 = nI (x + 1) from nI_1 x]
    exact ih f (x + 1) (by omega)
set_option maxRecDepth 100000 in
theorem unb_q {f : Nat} {B : Nat → Nat → Bool} {h : xh_H} (hB : ∀ x, x < 7 → xg 0 h.2.1 31 x = nI (msk (B x) 7)) (hq : a_rq a_tb h) : xq f xi_X0_unbeaten xmi_X0_unbeaten 0 [(0, .ref 28)] [] h (fun v h' => h = h' ∧ v = some (.int (nI (msk (fun y => nb B y 7) 7)))) := by
  refine xq_n 5 [0, 1, 2] [(0, .ref 28), (1, .int 127), (2, .int (Int32.ofInt 0))] [] h [] 6 hq rfl trivial (fun _ => ?_)
  have e : msk (fun y => nb B y 0) 7 = 127 := by
    show msk (fun _ => true) 7 = 127
    decide
  have r := unb_lp hB hq 7 f 0 (by omega)
  rw [e] at r
  exact r
set_option maxRecDepth 100000 in
set_option maxHeartbeats 4000000 in
theorem fr9_q {f mem sc : Nat} {PL : Nat → Int32} {d : Int32} {h : xh_H} (hi : a_inv a_tb h) (e9 : xg 0 h.2.1 0 9 = nI mem) (m12 : mem ≤ 12) (e8 : xg 0 h.2.1 0 8 = nI sc) (sc8 : sc ≤ 8) (e10 : xg 0 h.2.1 0 10 = d) (si : SI h) (hP : ∀ k, k < 84 → xg 0 h.2.1 30 k = PL k) (hq : a_rq a_tb h) : xq f xi_X9_free xmi_X9_free 0 [(0, .ref 0)] [] h (fun v h' => v = some (.int (nI (msk (fun y => nb (BT PL (cvB (fun k => xg 0 h.2.1 51 k) (fun k => xg 0 h.2.1 44 k) mem sc d) mem) y 7) 7)))) := by
  obtain ⟨⟨u1, u2, u3⟩, si⟩ := si
  obtain ⟨SS, un⟩ := si mem sc e9 m12 e8 sc8
  refine xq_n 9 [0] [(0, .ref 0)] [.int (xg 0 h.2.1 0 10), .ref 0, .ref 28] h [] 7 hq rfl trivial (fun _ => ?_)
  rw [e10]
  refine xq_run hq rfl rfl (if9_q hi e8 sc8 u1 u2 SS hq) ?_
  rintro v h1 ⟨rfl, Q, rfl, fd⟩
  refine xq_n 16 [0] [(0, .ref 0)] [.int (xg 0 h.2.1 0 9), .ref Q, .ref 28] h [] 4 hq rfl trivial (fun _ => ?_)
  rw [e9]
  obtain ⟨r, g1, g2, -⟩ := hv_cv hi m12 SS un u3 hq (s := 0) (Nat.two_pow_pos mem) fd
  refine xq_run hq rfl rfl (mat_q (PL := PL) (W := cvB (fun k => xg 0 h.2.1 51 k) (fun k => xg 0 h.2.1 44 k) mem sc d) m12 fd.1 g1 g2 (fun s hs => by
    obtain ⟨r', g1', -, g3⟩ := hv_cv hi m12 SS un u3 hq hs fd
    rw [g1] at g1'
    cases g1'
    exact g3) hP hq) ?_
  rintro v h1 ⟨rfl, g4, w31⟩
  have hq := fx_q g4 hq
  refine xq_n 23 [] [] [.ref 28] h1 [] 4 hq rfl trivial (fun _ => ?_)
  refine xq_run hq rfl rfl (unb_q (B := BT PL (cvB (fun k => xg 0 h.2.1 51 k) (fun k => xg 0 h.2.1 44 k) mem sc d) mem) w31 hq) ?_
  rintro v h2 ⟨rfl, rfl⟩
  exact xq_ret rfl rfl rfl rfl
set_option maxRecDepth 100000 in
set_option maxHeartbeats 4000000 in
theorem fr_in {B : Nat → Nat → Bool} {h : xh_H} (hB : ∀ x y, x < 7 → y < 7 → xg 0 h.2.1 63 (7 * x + y) = bl (B x y)) (hq : a_rq a_tb h) {y : Nat} {v1 : Int32} (hy : y < 7) {Q : Option Value → xh_H → Prop} (K : ∀ (f : Nat), xq f xi_X10_free xmi_X10_free 54 [(0, .ref 39), (1, .int v1), (2, .int (nI y)), (3, .int (bl (nb B y 7)))] [] h Q) : ∀ (n f x : Nat), x + n = 7 → xq f xi_X10_free xmi_X10_free 24 [(0, .ref 39), (1, .int v1), (2, .int (nI y)), (3, .int (bl (nb B y x))), (4, .int (nI x))] [] h Q := by
  intro n
  induction n with
  | zero =>
    intro f x hn
    have e : x = 7 := by omega
    subst e
    refine xq_n 54 [0, 1, 2, 3] [(0, .ref 39), (1, .int v1), (2, .int (nI y)), (3, .int (bl (nb B y 7)))] [] h [true] 5 hq rfl ⟨rfl, trivial⟩ (fun _ => ?_)
    exact K f
  | succ n ih =>
    intro f x hn
    have g0 : xe_c .ge (nI x) 7 = false := nge_f (b := 7) (by omega) (by decide) (by omega)
    have a1 : xg 0 h.2.1 63 (7 * nI x + nI y).toNatClampNeg = bl (B x y) := by rw [i7_b, nI_clamp (by omega)]; exact hB x y (by omega) hy
    have nx : nI x + Int32.ofInt 1 = nI (x + 1) := nI_1 x
    cases c : B x y with
    | false =>
      refine xq_n 24 [0, 1, 2, 3, 4] [(0, .ref 39), (1, .int v1), (2, .int (nI y)), (3, .int (bl (nb B y x))), (4, .int ((nI x) + Int32.ofInt 1))] [] h [false, true] 15 hq rfl ⟨g0, (show xe_c .eq (xg 0 h.2.1 63 (7 * nI x + nI y).toNatClampNeg) 0 = true by rw [a1, c]; rfl), trivial⟩ (fun _ => ?_)
      rw [nx, show nb B y x = nb B y (x + 1) by show nb B y x = (nb B y x && !B x y); rw [c]; cases nb B y x <;> rfl]
      exact ih f (x + 1) (by omega)
    | true =>
      refine xq_n 24 [0, 1, 2, 3, 4] [(0, .ref 39), (1, .int v1), (2, .int (nI y)), (3, .int (Int32.ofInt 0)), (4, .int ((nI x) + Int32.ofInt 1))] [] h [false, false] 17 hq rfl ⟨g0, (show xe_c .eq (xg 0 h.2.1 63 (7 * nI x + nI y).toNatClampNeg) 0 = false by rw [a1, c]; rfl), trivial⟩ (fun _ => ?_)
      have e2 : nb B y (x + 1) = false := by show (nb B y x && !B x y) = false; rw [c]; cases nb B y x <;> rfl
      have r := ih f (x + 1) (by omega)
      rw [e2] at r
      rw [nx]
      exact r
set_option maxRecDepth 100000 in
set_option maxHeartbeats 4000000 in
theorem fr_out {B : Nat → Nat → Bool} {h : xh_H} (hB : ∀ x y, x < 7 → y < 7 → xg 0 h.2.1 63 (7 * x + y) = bl (B x y)) (hq : a_rq a_tb h) : ∀ (n f y : Nat), y + n = 7 → xq f xi_X10_free xmi_X10_free 13 [(0, .ref 39), (1, .int (nI (msk (fun y => nb B y 7) y))), (2, .int (nI y))] [] h (fun v h' => h = h' ∧ v = some (.int (nI (msk (fun y => nb B y 7) 7)))) := by
  intro n
  induction n with
  | zero =>
    intro f y hn
    have e : y = 7 := by omega
    subst e
    refine xq_n 71 [] [] [.int (nI (msk (fun y => nb B y 7) 7))] h [true] 6 hq rfl ⟨rfl, trivial⟩ (fun _ => ?_)
    exact xq_ret rfl rfl rfl ⟨rfl, rfl⟩
  | succ n ih =>
    intro f y hn
    have g0 : xe_c .ge (nI y) 7 = false := nge_f (b := 7) (by omega) (by decide) (by omega)
    have nx : nI y + Int32.ofInt 1 = nI (y + 1) := nI_1 y
    refine xq_n 24 [0, 1, 2, 3, 4] [(0, .ref 39), (1, .int (nI (msk (fun y => nb B y 7) y))), (2, .int (nI y)), (3, .int (Int32.ofInt 1)), (4, .int (Int32.ofInt 0))] [] h [false] 9 hq rfl ⟨g0, trivial⟩ (fun _ => ?_)
    refine fr_in hB hq (y := y) (by omega) (fun f => ?_) 7 f 0 (by omega)
    have es : msk (fun y => nb B y 7) (y + 1) = if nb B y 7 = true then msk (fun y => nb B y 7) y ||| 2 ^ y else msk (fun y => nb B y 7) y := rfl
    cases c : nb B y 7 with
    | false =>
      refine xq_n 13 [0, 1, 2] [(0, .ref 39), (1, .int (nI (msk (fun y => nb B y 7) y))), (2, .int ((nI y) + Int32.ofInt 1))] [] h [true] 6 hq rfl ⟨rfl, trivial⟩ (fun _ => ?_)
      have r := ih f (y + 1) (by omega)
      rw [es, c, if_neg (by decide)] at r
      rw [nx]
      exact r
    | true =>
      refine xq_n 13 [0, 1, 2] [(0, .ref 39), (1, .int ((nI (msk (fun y => nb B y 7) y)) ||| ((Int32.ofInt 1) <<< ((nI y) &&& 31)))), (2, .int ((nI y) + Int32.ofInt 1))] [] h [false] 12 hq rfl ⟨rfl, trivial⟩ (fun _ => ?_)
      have r := ih f (y + 1) (by omega)
      rw [es, c, if_pos rfl] at r
      rw [nx, nI_o1 (by omega)]
      exact r
set_option maxRecDepth 100000 in
set_option maxHeartbeats 4000000 in
theorem fr10_q {f mem sc : Nat} {FR RW PL : Nat → Int32} {d : Int32} {h : xh_H} (m12 : mem ≤ 12) (e4 : xg 0 h.2.1 39 4 = nI mem) (e33 : xg 0 h.2.1 39 33 = nI sc) (sc8 : sc ≤ 8) (e3 : xg 0 h.2.1 39 3 = d) (hF : ∀ k, k < sc → xg 0 h.2.1 51 k = FR k) (hT : ∀ k, k < sc → (xg 0 h.2.1 52 k).toInt ≤ 999) (hR : ∀ k s, k < sc → s < 2 ^ mem → ∃ b : Bool, RW (4096 * k + s) = bl b ∧ xg 0 h.2.1 44 (4096 * k + s) = bl b) (hP : ∀ k, k < 84 → xg 0 h.2.1 62 k = PL k) (hq : a_rq a_tb h) : xq f xi_X10_free xmi_X10_free 0 [(0, .ref 39)] [] h (fun v h' => v = some (.int (nI (msk (fun y => nb (BT PL (cvB FR RW mem sc d) mem) y 7) 7)))) := by
  refine xq_n 6 [0] [(0, .ref 39)] [.ref 39] (xh_ui h 39 0 (Int32.ofInt 0)) [] 6 hq rfl trivial (fun _ => ?_)
  have hq : a_rq a_tb (xh_ui h 39 0 (Int32.ofInt 0)) := a_rq_ui hq
  refine xq_run hq rfl rfl (lop_q (FR := FR) (RW := RW) (PL := PL) (h := xh_ui h 39 0 (Int32.ofInt 0)) m12 ((gx_k (by decide)).trans e4) ((gx_k (by decide)).trans e33) sc8 ((gx_k (by decide)).trans e3) (fun k hk' => (gx_o (by decide)).trans (hF k hk')) (fun k hk' => by rw [gx_o (by decide)]; exact hT k hk') (fun k s h1 h2 => by obtain ⟨b, b1, b2⟩ := hR k s h1 h2; exact ⟨b, b1, (gx_o (by decide)).trans b2⟩) (fun k hk' => (gx_o (by decide)).trans (hP k hk')) hq) ?_
  rintro v h1 ⟨rfl, g1, w53, w63, w64⟩
  have hq := fx_q g1 hq
  refine xq_n 13 [0, 1, 2] [(0, .ref 39), (1, .int (Int32.ofInt 0)), (2, .int (Int32.ofInt 0))] [] h1 [] 6 hq rfl trivial (fun _ => ?_)
  exact xq_mono (fr_out w63 hq 7 f 0 (by omega)) (fun v h' e => e.2)
end XFR
