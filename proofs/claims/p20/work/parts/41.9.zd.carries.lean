section XCA
/-- what carries answers -/
def caV (FR RW : Nat → Int32) (mem sc : Nat) (x d : Int32) : Int32 := cond ((!xe_c .lt x 0 && !xe_c .ge x (Int32.ofInt 1 <<< (nI mem &&& 31))) && (!xe_c .lt d 0 && xe_c .le d 999)) (bl (cvB FR RW mem sc d x.toInt.toNat)) (Int32.ofInt (-1))
theorem inS_n {x : Int32} {mem : Nat} (m12 : mem ≤ 12) (h : (!xe_c .lt x 0 && !xe_c .ge x (Int32.ofInt 1 <<< (nI mem &&& 31))) = true) : ∃ s, x = nI s ∧ s < 2 ^ mem ∧ x.toInt.toNat = s := by
  simp only [Bool.and_eq_true, Bool.not_eq_true'] at h
  have p12 : 2 ^ mem ≤ 4096 := show 2 ^ mem ≤ 2 ^ 12 from Nat.pow_le_pow_right (by decide) m12
  have b1 : (0 : Int) ≤ x.toInt := a_ce (a_neg_ok h.1)
  have h2 := h.2
  rw [sh1 mem (by omega)] at h2
  have b2 : x.toInt < (nI (2 ^ mem)).toInt := a_ce (a_neg_ok h2)
  rw [nI_toInt (by omega)] at b2
  exact ⟨x.toInt.toNat, en_n (t := 0) (by omega), by omega, rfl⟩
set_option maxRecDepth 100000 in
set_option maxHeartbeats 4000000 in
theorem ca9_q {f mem sc : Nat} {x d : Int32} {h : xh_H} (hi : a_inv a_tb h) (e9 : xg 0 h.2.1 0 9 = nI mem) (m12 : mem ≤ 12) (e8 : xg 0 h.2.1 0 8 = nI sc) (sc8 : sc ≤ 8) (si : SI h) (hq : a_rq a_tb h) : xq f xi_X9_carries xmi_X9_carries 0 [(0, .ref 0), (1, .int x), (2, .int d)] [] h (fun v h' => v = some (.int (caV (fun k => xg 0 h.2.1 51 k) (fun k => xg 0 h.2.1 44 k) mem sc x d))) := by
  obtain ⟨⟨u1, u2, u3⟩, si⟩ := si
  obtain ⟨S, un⟩ := si mem sc e9 m12 e8 sc8
  have p12 : 2 ^ mem ≤ 4096 := show 2 ^ mem ≤ 2 ^ 12 from Nat.pow_le_pow_right (by decide) m12
  refine xq_n 2 [0, 1, 2] [(0, .ref 0), (1, .int x), (2, .int d)] [.int x, .ref 0] h [] 4 hq rfl trivial (fun _ => ?_)
  refine xq_run hq rfl rfl (set9_q (x := x) (z := nI mem) e9 hq) ?_
  rintro v h1 ⟨rfl, rfl⟩
  unfold caV
  cases hB : (!xe_c .lt x 0 && !xe_c .ge x (Int32.ofInt 1 <<< (nI mem &&& 31))) with
  | false =>
    refine xq_n 20 [] [] [.int (Int32.ofInt (-1))] h [true] 4 hq rfl ⟨rfl, trivial⟩ (fun _ => ?_)
    exact xq_ret rfl rfl rfl rfl
  | true =>
    cases c1 : xe_c .lt d 0 with
    | true =>
      refine xq_n 20 [] [] [.int (Int32.ofInt (-1))] h [false, true] 7 hq rfl ⟨rfl, c1, trivial⟩ (fun _ => ?_)
      exact xq_ret rfl rfl rfl rfl
    | false =>
      cases c2 : xe_c .le d 999 with
      | false =>
        refine xq_n 20 [] [] [.int (Int32.ofInt (-1))] h [false, false, false] 10 hq rfl ⟨rfl, c1, c2, trivial⟩ (fun _ => ?_)
        exact xq_ret rfl rfl rfl rfl
      | true =>
        obtain ⟨s, rfl, hs, es⟩ := inS_n m12 hB
        rw [es]
        refine xq_n 23 [0, 1, 2] [(0, .ref 0), (1, .int (nI s)), (2, .int d)] [.int d, .ref 0] h [false, false, true] 11 hq rfl ⟨rfl, c1, c2, trivial⟩ (fun _ => ?_)
        refine xq_run hq rfl rfl (if9_q hi e8 sc8 u1 u2 S hq) ?_
        rintro v h1 ⟨rfl, Q, rfl, fd⟩
        obtain ⟨r, g1, g2, g3⟩ := hv_cv hi m12 S un u3 hq hs fd
        refine xq_n 27 [1] [(1, .int (nI s))] [.int (nI s), .ref Q] h [] 3 hq rfl trivial (fun _ => ?_)
        refine xq_cr (As := [.ref Q, .int (nI s)]) (mj := xmi_X7_holds) (q := []) rfl rfl (fun _ _ => rfl) (xa_cs_ok (d := 0) (pc := 0) (lv := []) (nL := 0) fd.1 rfl).1 (fun f => xq_of (d := 0) ⟨_, rfl⟩ (ho_run hq fd.1 g1 g2 (by omega))) ?_
        rintro v h1 ⟨rfl, rfl⟩
        rw [g3]
        cases cvB (fun k => xg 0 h.2.1 51 k) (fun k => xg 0 h.2.1 44 k) mem sc d s with
        | true =>
          refine xq_n 38 [] [] [.int (Int32.ofInt 1)] h [false] 5 hq rfl ⟨rfl, trivial⟩ (fun _ => ?_)
          exact xq_ret rfl rfl rfl rfl
        | false =>
          refine xq_n 38 [] [] [.int (Int32.ofInt 0)] h [true] 5 hq rfl ⟨rfl, trivial⟩ (fun _ => ?_)
          exact xq_ret rfl rfl rfl rfl
/-- the told days are no later than the last day -/
theorem iF_td {FR TD : Nat → Int32} {d : Int32} {sc : Nat} (h : ∀ k, k < sc → (TD k).toInt ≤ 999) : iF FR (fun k => !xe_c .gt (TD k) 999) d sc = iF FR (fun _ => true) d sc := iF_c (fun _ _ => rfl) (fun k hk' => by
  rw [show xe_c .gt (TD k) 999 = false from xgt_f (by have := h k hk'; show (TD k).toInt ≤ 999; omega)]
  rfl)
set_option maxRecDepth 100000 in
set_option maxHeartbeats 4000000 in
theorem ca10_q {f mem sc : Nat} {x d : Int32} {FR RW : Nat → Int32} {h : xh_H} (e4 : xg 0 h.2.1 39 4 = nI mem) (m12 : mem ≤ 12) (e33 : xg 0 h.2.1 39 33 = nI sc) (sc8 : sc ≤ 8) (hF : ∀ k, k < sc → xg 0 h.2.1 51 k = FR k) (hT : ∀ k, k < sc → (xg 0 h.2.1 52 k).toInt ≤ 999) (hR : ∀ k s, k < sc → s < 2 ^ mem → ∃ b : Bool, RW (4096 * k + s) = bl b ∧ xg 0 h.2.1 44 (4096 * k + s) = bl b) (hq : a_rq a_tb h) : xq f xi_X10_carries xmi_X10_carries 0 [(0, .ref 39), (1, .int x), (2, .int d)] [] h (fun v h' => v = some (.int (caV FR RW mem sc x d))) := by
  have p12 : 2 ^ mem ≤ 4096 := show 2 ^ mem ≤ 2 ^ 12 from Nat.pow_le_pow_right (by decide) m12
  refine xq_n 7 [0, 1, 2] [(0, .ref 39), (1, .int x), (2, .int d)] [.int x, .ref 39] (xh_ui h 39 0 (Int32.ofInt 0)) [] 7 hq rfl trivial (fun _ => ?_)
  have hq : a_rq a_tb (xh_ui h 39 0 (Int32.ofInt 0)) := a_rq_ui hq
  have d4 : xg 0 (xh_ui h 39 0 (Int32.ofInt 0)).2.1 39 4 = nI mem := (gx_k (by decide)).trans e4
  have d33 : xg 0 (xh_ui h 39 0 (Int32.ofInt 0)).2.1 39 33 = nI sc := (gx_k (by decide)).trans e33
  have dF : ∀ k, k < sc → xg 0 (xh_ui h 39 0 (Int32.ofInt 0)).2.1 51 k = FR k := fun k hk' => (gx_o (by decide)).trans (hF k hk')
  have dT : ∀ k, k < sc → (xg 0 (xh_ui h 39 0 (Int32.ofInt 0)).2.1 52 k).toInt ≤ 999 := fun k hk' => by rw [gx_o (by decide)]; exact hT k hk'
  have dR : ∀ k s, k < sc → s < 2 ^ mem → ∃ b : Bool, RW (4096 * k + s) = bl b ∧ xg 0 (xh_ui h 39 0 (Int32.ofInt 0)).2.1 44 (4096 * k + s) = bl b := fun k s h1 h2 => by
    obtain ⟨b, b1, b2⟩ := hR k s h1 h2
    exact ⟨b, b1, (gx_o (by decide)).trans b2⟩
  generalize xh_ui h 39 0 (Int32.ofInt 0) = h0 at hq d4 d33 dF dT dR ⊢
  refine xq_run hq rfl rfl (set10_q (x := x) (z := nI mem) d4 hq) ?_
  rintro v h1 ⟨rfl, rfl⟩
  unfold caV
  cases hB : (!xe_c .lt x 0 && !xe_c .ge x (Int32.ofInt 1 <<< (nI mem &&& 31))) with
  | false =>
    refine xq_n 25 [] [] [.int (Int32.ofInt (-1))] h0 [true] 4 hq rfl ⟨rfl, trivial⟩ (fun _ => ?_)
    exact xq_ret rfl rfl rfl rfl
  | true =>
    obtain ⟨s, rfl, hs, es⟩ := inS_n m12 hB
    rw [es]
    refine xq_n 18 [0, 1, 2] [(0, .ref 39), (1, .int (nI s)), (2, .int d)] [.int 999, .int (Int32.ofInt 0), .int d] h0 [false] 6 hq rfl ⟨rfl, trivial⟩ (fun _ => ?_)
    refine xq_run hq rfl rfl (isIn_q hq) ?_
    rintro v h1 ⟨rfl, rfl⟩
    rw [in_c]
    cases hD : (!xe_c .lt d (Int32.ofInt 0) && xe_c .le d 999) with
    | false =>
      have hD' : (!xe_c .lt d 0 && xe_c .le d 999) = false := hD
      rw [hD']
      refine xq_n 25 [] [] [.int (Int32.ofInt (-1))] h0 [false] 4 hq rfl ⟨rfl, trivial⟩ (fun _ => ?_)
      exact xq_ret rfl rfl rfl rfl
    | true =>
      have hD' : (!xe_c .lt d 0 && xe_c .le d 999) = true := hD
      rw [hD']
      refine xq_n 32 [0, 1, 2] [(0, .ref 39), (1, .int (nI s)), (2, .int d)] [.int 999, .int d, .ref 39, .ref 39] h0 [true] 7 hq rfl ⟨rfl, trivial⟩ (fun _ => ?_)
      refine xq_run hq rfl rfl (if10_q (d := d) (t := 999) (TD := fun k => xg 0 h0.2.1 52 k) d33 sc8 dF (fun _ _ => rfl) hq) ?_
      rintro v h1 ⟨rfl, rfl⟩
      rw [iF_td dT]
      refine xq_n 36 [] [] [.int (nI s), .int (oN (iF FR (fun _ => true) d sc)), .ref 39] h0 [] 3 hq rfl trivial (fun _ => ?_)
      refine xq_run hq rfl rfl (cb10_q (RW := RW) d4 m12 (by omega) (fun k e => ⟨by have := iF_lt e; omega, dR k s (iF_lt e) hs⟩) hq) ?_
      rintro v h1 ⟨rfl, rfl⟩
      unfold cvB
      cases cvo RW mem s (iF FR (fun _ => true) d sc) with
      | true =>
        refine xq_n 47 [] [] [.int (Int32.ofInt 1)] h0 [false] 5 hq rfl ⟨rfl, trivial⟩ (fun _ => ?_)
        exact xq_ret rfl rfl rfl rfl
      | false =>
        refine xq_n 47 [] [] [.int (Int32.ofInt 0)] h0 [true] 5 hq rfl ⟨rfl, trivial⟩ (fun _ => ?_)
        exact xq_ret rfl rfl rfl rfl
end XCA
