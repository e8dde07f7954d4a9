section XSV
variable {T : Nat → Nat} {n mem : Nat}
set_option maxRecDepth 100000 in
set_option maxHeartbeats 4000000 in
theorem isIn_q {f : Nat} {v a b : Int32} {h : xh_H} (hq : a_rq a_tb h) : xq f xi_X10_isIn xmi_X10_isIn 0 [(0, .int v), (1, .int a), (2, .int b)] [] h (fun w h' => h = h' ∧ w = some (.int (bl (decide (a.toInt ≤ v.toInt ∧ v.toInt ≤ b.toInt))))) := by
  cases c1 : xe_c .lt v a with
  | true =>
    have b1 : v.toInt < a.toInt := a_ce c1
    refine xq_n 15 [] [] [.int (Int32.ofInt 0)] h [true] 6 hq rfl ⟨c1, trivial⟩ (fun hq => ?_)
    exact xq_ret rfl rfl rfl ⟨rfl, by rw [show decide (a.toInt ≤ v.toInt ∧ v.toInt ≤ b.toInt) = false from decide_eq_false (by omega)]; rfl⟩
  | false =>
    have b1 : a.toInt ≤ v.toInt := a_ce (a_neg_ok c1)
    cases c2 : xe_c .gt v b with
    | true =>
      have b2 : b.toInt < v.toInt := a_ce c2
      refine xq_n 15 [] [] [.int (Int32.ofInt 0)] h [false, true] 9 hq rfl ⟨c1, c2, trivial⟩ (fun hq => ?_)
      exact xq_ret rfl rfl rfl ⟨rfl, by rw [show decide (a.toInt ≤ v.toInt ∧ v.toInt ≤ b.toInt) = false from decide_eq_false (by omega)]; rfl⟩
    | false =>
      have b2 : v.toInt ≤ b.toInt := a_ce (a_neg_ok c2)
      refine xq_n 15 [] [] [.int (Int32.ofInt 1)] h [false, false] 10 hq rfl ⟨c1, c2, trivial⟩ (fun hq => ?_)
      exact xq_ret rfl rfl rfl ⟨rfl, by rw [show decide (a.toInt ≤ v.toInt ∧ v.toInt ≤ b.toInt) = true from decide_eq_true (by omega)]; rfl⟩
set_option maxRecDepth 100000 in
theorem take_q {f : Nat} {h : xh_H} (hq : a_rq a_tb h) : xq f xi_X10_take xmi_X10_take 0 [(0, .ref 39)] [] h (fun v h' => v = some (.int (xg 0 h.2.1 39 2)) ∧ h' = xh_ui h 39 2 (Int32.ofInt 0)) := by
  refine xq_n 11 [] [] [.int (xg 0 h.2.1 39 2)] (xh_ui h 39 2 (Int32.ofInt 0)) [] 9 hq rfl trivial (fun _ => ?_)
  exact xq_ret rfl rfl rfl ⟨rfl, rfl⟩
/-- what the reference's statute answers -/
def s10_A (sc td : Nat) (f fk : Int32) (r : Sum Nat (Nat × Nat)) (v : Option Value) (h' : xh_H) : Prop := (sref sc td f → v = some (.int (-1000)) ∧ xg 0 h'.2.1 39 33 = nI sc ∧ xg 0 h'.2.1 39 13 = fk) ∧ (¬ sref sc td f → (∀ m, r = .inl m → v = some (.int (nI m)) ∧ xg 0 h'.2.1 39 33 = nI (sc + 1) ∧ xg 0 h'.2.1 39 13 = nI 0) ∧ ∀ k pl, r = .inr (k, pl) → v = some (.int (Int32.ofInt (-1) - nI pl)) ∧ xg 0 h'.2.1 39 33 = nI sc ∧ xg 0 h'.2.1 39 13 = nI k)
set_option maxRecDepth 100000 in
set_option maxHeartbeats 4000000 in
/-- X10.statute -/
theorem s10_q {f sc td : Nat} {fd : Int32} {h : xh_H} {r : Sum Nat (Nat × Nat)} (hq : a_rq a_tb h) (n6 : n ≤ 640) (e2 : xg 0 h.2.1 39 2 = nI n) (hT : ∀ k, k < n → T k < 256 ∧ xg 0 h.2.1 40 k = nI (T k)) (e4 : xg 0 h.2.1 39 4 = nI mem) (m12 : mem ≤ 12) (e33 : xg 0 h.2.1 39 33 = nI sc) (sc8 : sc ≤ 8) (e3 : xg 0 h.2.1 39 3 = nI td) (td9 : td ≤ 999) {W : Nat → Nat} (hX : ¬ sref sc td fd → ∃ j, Tx T n mem j 0 0 0 W r) : xq f xi_X10_statute xmi_X10_statute 0 [(0, .ref 39), (1, .int fd)] [] h (s10_A sc td fd (xg 0 h.2.1 39 13) r) := by
  have tdi := nI_toInt (n := td) (by omega)
  refine xq_n 7 [0, 1] [(0, .ref 39), (1, .int fd)] [.ref 39, .ref 39] (xh_ui h 39 0 (Int32.ofInt 0)) [] 7 hq rfl trivial (fun _ => ?_)
  have hq : a_rq a_tb (xh_ui h 39 0 (Int32.ofInt 0)) := a_rq_ui hq
  refine xq_run hq rfl rfl (take_q hq) ?_
  rintro v h1 ⟨rfl, rfl⟩
  have hq : a_rq a_tb (xh_ui (xh_ui h 39 0 (Int32.ofInt 0)) 39 2 (Int32.ofInt 0)) := a_rq_ui hq
  rw [show xg 0 (xh_ui h 39 0 (Int32.ofInt 0)).2.1 39 2 = nI n from (gx_k (by decide)).trans e2]
  have g1 : fx (fun c k => Nat.beq c 39 && (Nat.beq k 0 || (Nat.beq k 2 || Nat.beq k 6))) fN h (xh_ui (xh_ui (xh_ui h 39 0 (Int32.ofInt 0)) 39 2 (Int32.ofInt 0)) 39 6 (nI n)) := fx_ui (fx_ui (fx_ui fx_0 rfl) rfl) rfl
  have d33 := (fx_i (c := 39) (k := 33) g1 rfl).trans e33
  have d3 := (fx_i (c := 39) (k := 3) g1 rfl).trans e3
  have d13 := fx_i (c := 39) (k := 13) g1 rfl
  have d4 := (fx_i (c := 39) (k := 4) g1 rfl).trans e4
  have d40 : ∀ k, k < n → T k < 256 ∧ xg 0 (xh_ui (xh_ui (xh_ui h 39 0 (Int32.ofInt 0)) 39 2 (Int32.ofInt 0)) 39 6 (nI n)).2.1 40 k = nI (T k) := fun k hk' => ⟨(hT k hk').1, (fx_i (c := 40) (k := k) g1 rfl).trans (hT k hk').2⟩
  have d6 : xg 0 (xh_ui (xh_ui (xh_ui h 39 0 (Int32.ofInt 0)) 39 2 (Int32.ofInt 0)) 39 6 (nI n)).2.1 39 6 = nI n := gx_s
  have hq1 : a_rq a_tb (xh_ui (xh_ui (xh_ui h 39 0 (Int32.ofInt 0)) 39 2 (Int32.ofInt 0)) 39 6 (nI n)) := a_rq_ui hq
  refine xq_n 13 [0, 1] [(0, .ref 39), (1, .int fd)] [] (xh_ui (xh_ui (xh_ui h 39 0 (Int32.ofInt 0)) 39 2 (Int32.ofInt 0)) 39 6 (nI n)) [] 3 hq rfl trivial (fun _ => ?_)
  generalize xh_ui (xh_ui (xh_ui h 39 0 (Int32.ofInt 0)) 39 2 (Int32.ofInt 0)) 39 6 (nI n) = h1 at d33 d3 d13 d4 d40 d6 hq1 ⊢
  have hq := hq1
  by_cases k8 : sc = 8
  · refine xq_n 39 [] [] [.int (-1000)] h1 [true] 7 hq rfl ⟨(show xe_c .eq (xg 0 h1.2.1 39 33) 8 = true by rw [d33, k8]; rfl), trivial⟩ (fun hq => ?_)
    exact xq_ret rfl rfl rfl ⟨fun _ => ⟨rfl, d33, d13⟩, fun z => absurd (Or.inl (by omega)) z⟩
  have c1 : xe_c .eq (xg 0 h1.2.1 39 33) 8 = false := by rw [d33]; exact xeq_f (by rw [nI_toInt (by omega)]; show ((sc : Nat) : Int) ≠ 8; omega)
  refine xq_n 30 [0, 1] [(0, .ref 39), (1, .int fd)] [.int 999, .int (xg 0 h1.2.1 39 3), .int fd] h1 [false] 10 hq rfl ⟨c1, trivial⟩ (fun hq => ?_)
  rw [d3]
  refine xq_run hq rfl rfl (isIn_q hq) ?_
  rintro v h2 ⟨rfl, rfl⟩
  cases b : decide ((nI td).toInt ≤ fd.toInt ∧ fd.toInt ≤ (999 : Int32).toInt) with
  | false =>
    have db := of_decide_eq_false b
    rw [tdi] at db
    have e9 : (999 : Int32).toInt = 999 := rfl
    rw [e9] at db
    refine xq_n 39 [] [] [.int (-1000)] h1 [false] 4 hq rfl ⟨rfl, trivial⟩ (fun hq => ?_)
    refine xq_ret rfl rfl rfl ⟨fun _ => ⟨rfl, d33, d13⟩, fun z => absurd ?_ z⟩
    by_cases z1 : (td : Int) ≤ fd.toInt
    · exact Or.inr (Or.inr (by omega))
    · exact Or.inr (Or.inl (by omega))
  | true =>
    have db := of_decide_eq_true b
    rw [tdi] at db
    have e9 : (999 : Int32).toInt = 999 := rfl
    rw [e9] at db
    have nsr : ¬ sref sc td fd := by
      rintro (z | z | z) <;> omega
    obtain ⟨j, hX⟩ := hX nsr
    refine xq_n 61 [0, 1] [(0, .ref 39), (1, .int fd)] [.ref 39] (xh_ui (xh_ui (xh_ui (xh_ui h1 39 13 (Int32.ofInt 0)) 39 26 (Int32.ofInt 0)) 39 27 (Int32.ofInt 0)) 39 7 (Int32.ofInt 0)) [true] 16 hq rfl ⟨rfl, trivial⟩ (fun _ => ?_)
    have hq : a_rq a_tb (xh_ui (xh_ui (xh_ui (xh_ui h1 39 13 (Int32.ofInt 0)) 39 26 (Int32.ofInt 0)) 39 27 (Int32.ofInt 0)) 39 7 (Int32.ofInt 0)) := a_rq_ui (a_rq_ui (a_rq_ui (a_rq_ui hq)))
    have g2 : fx (fun c k => Nat.beq c 39 && (Nat.beq k 13 || (Nat.beq k 26 || (Nat.beq k 27 || Nat.beq k 7)))) fN h1 (xh_ui (xh_ui (xh_ui (xh_ui h1 39 13 (Int32.ofInt 0)) 39 26 (Int32.ofInt 0)) 39 27 (Int32.ofInt 0)) 39 7 (Int32.ofInt 0)) := fx_ui (fx_ui (fx_ui (fx_ui fx_0 rfl) rfl) rfl) rfl
    have a33 := (fx_i (c := 39) (k := 33) g2 rfl).trans d33
    have a4 := (fx_i (c := 39) (k := 4) g2 rfl).trans d4
    have a6 := (fx_i (c := 39) (k := 6) g2 rfl).trans d6
    have a40 : ∀ k, k < n → T k < 256 ∧ xg 0 (xh_ui (xh_ui (xh_ui (xh_ui h1 39 13 (Int32.ofInt 0)) 39 26 (Int32.ofInt 0)) 39 27 (Int32.ofInt 0)) 39 7 (Int32.ofInt 0)).2.1 40 k = nI (T k) := fun k hk' => ⟨(d40 k hk').1, (fx_i (c := 40) (k := k) g2 rfl).trans (d40 k hk').2⟩
    have a7 : xg 0 (xh_ui (xh_ui (xh_ui (xh_ui h1 39 13 (Int32.ofInt 0)) 39 26 (Int32.ofInt 0)) 39 27 (Int32.ofInt 0)) 39 7 (Int32.ofInt 0)).2.1 39 7 = nI 0 := gx_s
    have a27 : xg 0 (xh_ui (xh_ui (xh_ui (xh_ui h1 39 13 (Int32.ofInt 0)) 39 26 (Int32.ofInt 0)) 39 27 (Int32.ofInt 0)) 39 7 (Int32.ofInt 0)).2.1 39 27 = nI 0 := (gx_k (by decide)).trans gx_s
    have a26 : xg 0 (xh_ui (xh_ui (xh_ui (xh_ui h1 39 13 (Int32.ofInt 0)) 39 26 (Int32.ofInt 0)) 39 27 (Int32.ofInt 0)) 39 7 (Int32.ofInt 0)).2.1 39 26 = nI 0 := (gx_k (by decide)).trans ((gx_k (by decide)).trans gx_s)
    have a13 : xg 0 (xh_ui (xh_ui (xh_ui (xh_ui h1 39 13 (Int32.ofInt 0)) 39 26 (Int32.ofInt 0)) 39 27 (Int32.ofInt 0)) 39 7 (Int32.ofInt 0)).2.1 39 13 = nI 0 := (gx_k (by decide)).trans ((gx_k (by decide)).trans ((gx_k (by decide)).trans gx_s))
    generalize xh_ui (xh_ui (xh_ui (xh_ui h1 39 13 (Int32.ofInt 0)) 39 26 (Int32.ofInt 0)) 39 27 (Int32.ofInt 0)) 39 7 (Int32.ofInt 0) = h2 at hq a33 a4 a6 a40 a7 a27 a26 a13 ⊢
    have hr : rtp h2 T n := ⟨a6, n6, a40⟩
    refine xq_run hq rfl rfl (go_q hq hr a7 (Nat.zero_le _)) ?_
    rintro v h3 ⟨rfl, g3, t3⟩
    have hq := fx_q g3 hq
    have r0 : rq0 h3 T n mem 0 W 0 0 := ⟨rtp_f hr g3 rfl (fun _ => rfl), t3, (fx_i g3 rfl).trans a4, m12, ⟨(fx_i g3 rfl).trans a26, by decide, fun k hk' => absurd hk' (Nat.not_lt_zero k)⟩, (fx_i g3 rfl).trans a27, by decide, (fx_i g3 rfl).trans a13⟩
    refine xq_mono (st_64 (fd := fd) (h0 := h3) (by omega) j 0 0 0 W f h3 hX r0 hq fx_0 ((fx_i g3 rfl).trans a33)) (fun v h' e => ?_)
    exact ⟨fun z => absurd z nsr, fun _ => ⟨e.2.1, e.2.2⟩⟩
end XSV
