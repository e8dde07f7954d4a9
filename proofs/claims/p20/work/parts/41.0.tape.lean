section XTP
abbrev pu_md : List (Nat × Nat) := [(1, 1), (2, 0)]
abbrev cm_md : List (Nat × Nat) := [(39, 0), (39, 2), (40, 0)]
set_option maxRecDepth 100000 in
theorem pu_step {d t : Nat} {w k : Int32} {h0 h : xh_H} {Q : Option Value → xh_H → Prop} (hn : 72 ≤ h0.1.length) (hk0 : hk pu_md h0 h) (ht : xg 0 h.2.1 1 1 = nI t) (t6 : t < 640) (hkp : xe_c .lt k 0 = false) (kk : ∀ h', hk pu_md h0 h' → xg 0 h'.2.1 1 1 = nI (t + 1) → xt_P d xi_X8_put xmi_X8_put 3 [(0, .ref 1), (1, .int w), (2, .int (k + Int32.ofInt (-8)))] [] h' Q) : xt_P d xi_X8_put xmi_X8_put 3 [(0, .ref 1), (1, .int w), (2, .int k)] [] h Q := by
  have hq := hk_q hk0 hn
  have tc : (nI t).toNatClampNeg = t := nI_clamp (by omega)
  have e1 : nI t + Int32.ofInt 1 = nI (t + 1) := nI_1 t
  have ti := nI_toInt (n := t + 1) (by omega)
  have s2 : h.1[2]? = some (2, 640) := hq.2.1 2 _ rfl
  have hin : xe_in (nI t) 640 = true := xin_n t6 (by omega)
  refine xa_tn 29 [0, 1, 2] [(0, .ref 1), (1, .int w), (2, .int k)] [.int ((w >>> (k &&& 31)).toInt8.toInt32), .int (xg 0 h.2.1 1 1), .ref 2] h [false, false] 16 hq rfl ⟨hkp, (show xe_c .ge (xg 0 h.2.1 1 1) 640 = false by rw [ht]; exact nge_f (b := 640) (by omega) (by omega) t6), trivial⟩ (fun _ => ?_)
  rw [ht]
  have b8 := vp_nar8 ((w >>> (k &&& 31)).toInt8.toInt32)
  refine xp_step (pc1 := 30) (lv1 := [(0, .ref 1), (1, .int w), (2, .int k)]) (st1 := []) (h1 := xh_ui h 2 t (vp_nar .byte ((w >>> (k &&& 31)).toInt8.toInt32))) (r := _) rfl rfl (by simp [xe_2, xe_1, xp_iir, s2, hin, tc]) ?_
  generalize vp_nar .byte ((w >>> (k &&& 31)).toInt8.toInt32) = y at b8
  have k1 : hk pu_md h0 (xh_ui h 2 t y) := hk_ui (s := (2, 640)) (lo := -128) (hi := 127) hk0 hn rfl rfl b8.1 b8.2 rfl rfl
  have e11 : xg 0 (xh_ui h 2 t y).2.1 1 1 = nI t := by rw [gx_o (by decide)]; exact ht
  generalize xh_ui h 2 t y = h2 at k1 e11 ⊢
  refine xa_tn 3 [0, 1, 2] [(0, .ref 1), (1, .int w), (2, .int (k + Int32.ofInt (-8)))] [] (xh_ui h2 1 1 ((xg 0 h2.2.1 1 1) + (Int32.ofInt 1))) [] 10 (hk_q k1 hn) rfl trivial (fun _ => ?_)
  rw [e11, e1]
  exact kk _ (hk_ui (s := (0, 8)) (lo := 0) (hi := 640) k1 hn rfl rfl (by omega) (by omega) rfl rfl) gx_s
set_option maxRecDepth 100000 in
/-- Tape.put: four bytes more -/
theorem pu_run {d t : Nat} {w : Int32} {h0 h : xh_H} (hn : 72 ≤ h0.1.length) (hk0 : hk pu_md h0 h) (ht : xg 0 h.2.1 1 1 = nI t) (t6 : t + 4 ≤ 640) : xt_P d xi_X8_put xmi_X8_put 0 [(0, .ref 1), (1, .int w)] [] h (fun v h' => v = none ∧ hk pu_md h0 h' ∧ xg 0 h'.2.1 1 1 = nI (t + 4)) := by
  refine xa_tn 3 [0, 1, 2] [(0, .ref 1), (1, .int w), (2, .int 24)] [] h [] 4 (hk_q hk0 hn) rfl trivial (fun _ => ?_)
  refine pu_step hn hk0 ht (by omega) (by decide) (fun h1 k1 e1 => ?_)
  refine pu_step hn k1 e1 (by omega) (by decide) (fun h2 k2 e2 => ?_)
  refine pu_step hn k2 e2 (by omega) (by decide) (fun h3 k3 e3 => ?_)
  refine pu_step hn k3 e3 (by omega) (by decide) (fun h4 k4 e4 => ?_)
  refine xa_tn 46 [] [] [] h4 [true] 4 (hk_q k4 hn) rfl ⟨by decide, trivial⟩ (fun _ => ?_)
  exact xp_ret rfl rfl rfl ⟨rfl, k4, e4⟩
/-- what feed answers, and the tape's length behind it -/
def fe_a (t : Nat) : Int32 := if t + 20 ≤ 640 then nI (t + 20) else Int32.ofInt (-1)
def fe_t (t : Nat) : Nat := if t + 20 ≤ 640 then t + 20 else t
theorem fe_s {t : Nat} (h : t ≤ 640) : (nI t + 20).toInt = (t : Int) + 20 := by
  have ti := nI_toInt (n := t) (by omega)
  have e : (20 : Int32).toInt = 20 := rfl
  rw [i_add (by rw [ti, e]; omega) (by rw [ti, e]; omega), ti, e]
set_option maxRecDepth 100000 in
theorem hr_run {d t : Nat} {h : xh_H} (hq : a_rq a_tb h) (ht : xg 0 h.2.1 1 1 = nI t) (t6 : t ≤ 640) : xt_P d xi_X8_hasRoom xmi_X8_hasRoom 0 [(0, .ref 1)] [] h (fun v h' => h = h' ∧ v = some (.int (bl (decide (t + 20 ≤ 640))))) := by
  have z : (640 : Int32).toInt = 640 := rfl
  by_cases hr : t + 20 ≤ 640
  · refine xa_tn 18 [] [] [.int (Int32.ofInt 1)] h [false] 10 hq rfl ⟨xgt_f (show ((xg 0 h.2.1 1 1) + 20).toInt ≤ (640 : Int32).toInt by rw [ht, fe_s t6, z]; omega), trivial⟩ (fun _ => ?_)
    refine xp_ret rfl rfl rfl ⟨rfl, ?_⟩
    rw [decide_eq_true hr]
    rfl
  · refine xa_tn 18 [] [] [.int (Int32.ofInt 0)] h [true] 9 hq rfl ⟨xgt_t (show (640 : Int32).toInt < ((xg 0 h.2.1 1 1) + 20).toInt by rw [ht, fe_s t6, z]; omega), trivial⟩ (fun _ => ?_)
    refine xp_ret rfl rfl rfl ⟨rfl, ?_⟩
    rw [decide_eq_false hr]
    rfl
set_option maxRecDepth 100000 in
set_option maxHeartbeats 4000000 in
/-- X9.feed -/
theorem f9_run {d t : Nat} {a b c d4 e5 : Int32} {h : xh_H} (hn : 72 ≤ h.1.length) (hi : a_inv a_tb h) (ht : xg 0 h.2.1 1 1 = nI t) (t6 : t ≤ 640) : xt_P (d + 1) xi_X9_feed xmi_X9_feed 0 [(0, .ref 0), (1, .int a), (2, .int b), (3, .int c), (4, .int d4), (5, .int e5)] [] h (fun v h' => hk pu_md h h' ∧ v = some (.int (fe_a t)) ∧ xg 0 h'.2.1 1 1 = nI (fe_t t)) := by
  have hq := a_rq_of hi.1 hn
  refine xa_tn 4 [0, 1, 2, 3, 4, 5] [(0, .ref 0), (1, .int a), (2, .int b), (3, .int c), (4, .int d4), (5, .int e5)] [.ref 1] h [] 4 hq rfl trivial (fun _ => ?_)
  refine xp_run hq rfl rfl (hr_run (d := d) hq ht t6) ?_
  rintro v h1 ⟨rfl, rfl⟩
  unfold fe_a fe_t
  by_cases hr : t + 20 ≤ 640
  · rw [decide_eq_true hr, if_pos hr, if_pos hr]
    refine xa_tn 17 [0, 1, 2, 3, 4, 5] [(0, .ref 0), (1, .int a), (2, .int b), (3, .int c), (4, .int d4), (5, .int e5)] [.int a, .ref 1] h [true] 6 hq rfl ⟨rfl, trivial⟩ (fun _ => ?_)
    refine xp_run hq rfl rfl (pu_run (d := d) (h0 := h) hn (hk_0 hi) ht (by omega)) ?_
    rintro v g1 ⟨rfl, k1, e1⟩
    refine xa_tn 25 [0, 1, 2, 3, 4, 5] [(0, .ref 0), (1, .int a), (2, .int b), (3, .int c), (4, .int d4), (5, .int e5)] [.int b, .ref 1] g1 [] 5 (hk_q k1 hn) rfl trivial (fun _ => ?_)
    refine xp_run (hk_q k1 hn) rfl rfl (pu_run (d := d) (h0 := h) hn k1 e1 (by omega)) ?_
    rintro v g2 ⟨rfl, k2, e2⟩
    refine xa_tn 33 [0, 1, 2, 3, 4, 5] [(0, .ref 0), (1, .int a), (2, .int b), (3, .int c), (4, .int d4), (5, .int e5)] [.int c, .ref 1] g2 [] 5 (hk_q k2 hn) rfl trivial (fun _ => ?_)
    refine xp_run (hk_q k2 hn) rfl rfl (pu_run (d := d) (h0 := h) hn k2 e2 (by omega)) ?_
    rintro v g3 ⟨rfl, k3, e3⟩
    refine xa_tn 42 [0, 1, 2, 3, 4, 5] [(0, .ref 0), (1, .int a), (2, .int b), (3, .int c), (4, .int d4), (5, .int e5)] [.int d4, .ref 1] g3 [] 5 (hk_q k3 hn) rfl trivial (fun _ => ?_)
    refine xp_run (hk_q k3 hn) rfl rfl (pu_run (d := d) (h0 := h) hn k3 e3 (by omega)) ?_
    rintro v g4 ⟨rfl, k4, e4⟩
    refine xa_tn 51 [0, 1, 2, 3, 4, 5] [(0, .ref 0), (1, .int a), (2, .int b), (3, .int c), (4, .int d4), (5, .int e5)] [.int e5, .ref 1] g4 [] 5 (hk_q k4 hn) rfl trivial (fun _ => ?_)
    refine xp_run (hk_q k4 hn) rfl rfl (pu_run (d := d) (h0 := h) hn k4 e4 (by omega)) ?_
    rintro v g5 ⟨rfl, k5, e5'⟩
    refine xa_tn 61 [] [] [.int (xg 0 g5.2.1 1 1)] g5 [] 5 (hk_q k5 hn) rfl trivial (fun _ => ?_)
    exact xp_ret rfl rfl rfl ⟨k5, by rw [e5'], e5'⟩
  · rw [decide_eq_false hr, if_neg hr, if_neg hr]
    refine xa_tn 11 [] [] [.int (Int32.ofInt (-1))] h [false] 4 hq rfl ⟨rfl, trivial⟩ (fun _ => ?_)
    exact xp_ret rfl rfl rfl ⟨hk_0 hi, rfl, ht⟩
set_option maxRecDepth 100000 in
theorem cm_step {d t : Nat} {w k : Int32} {h0 h : xh_H} {Q : Option Value → xh_H → Prop} (hn : 72 ≤ h0.1.length) (hk0 : hk cm_md h0 h) (ht : xg 0 h.2.1 39 2 = nI t) (t6 : t < 640) (hkp : xe_c .lt k 0 = false) (kk : ∀ h', hk cm_md h0 h' → xg 0 h'.2.1 39 2 = nI (t + 1) → xt_P d xi_X10_come xmi_X10_come 3 [(0, .ref 39), (1, .int w), (2, .int (k + Int32.ofInt (-8)))] [] h' Q) : xt_P d xi_X10_come xmi_X10_come 3 [(0, .ref 39), (1, .int w), (2, .int k)] [] h Q := by
  have hq := hk_q hk0 hn
  have tc : (nI t).toNatClampNeg = t := nI_clamp (by omega)
  have e1 : nI t + Int32.ofInt 1 = nI (t + 1) := nI_1 t
  have ti := nI_toInt (n := t + 1) (by omega)
  refine xa_tn 3 [0, 1, 2] [(0, .ref 39), (1, .int w), (2, .int (k + Int32.ofInt (-8)))] [] (xh_ui (xh_ui h 40 (xg 0 h.2.1 39 2).toNatClampNeg (((w.toUInt32 >>> (k.toUInt32 &&& Int32.toUInt32 31)).toInt32) &&& 255)) 39 2 ((xg 0 (xh_ui h 40 (xg 0 h.2.1 39 2).toNatClampNeg (((w.toUInt32 >>> (k.toUInt32 &&& Int32.toUInt32 31)).toInt32) &&& 255)).2.1 39 2) + (Int32.ofInt 1))) [false] 22 hq rfl ⟨hkp, (show xe_in (xg 0 h.2.1 39 2) 640 = true by rw [ht]; exact xin_n t6 (by omega)), trivial⟩ (fun _ => ?_)
  have b8 := ar_and1 (x := (w.toUInt32 >>> (k.toUInt32 &&& Int32.toUInt32 31)).toInt32) (y := 255) (by decide)
  have z : (255 : Int32).toInt = 255 := rfl
  generalize ((w.toUInt32 >>> (k.toUInt32 &&& Int32.toUInt32 31)).toInt32) &&& 255 = y at b8
  rw [gx_o (by decide), ht, tc, e1]
  have k1 : hk cm_md h0 (xh_ui h 40 t y) := hk_ui (s := (1, 640)) (lo := 0) (hi := 255) hk0 hn rfl rfl b8.1 (by omega) rfl rfl
  exact kk _ (hk_ui (s := (0, 10)) (lo := 0) (hi := 640) k1 hn rfl rfl (by omega) (by omega) rfl rfl) gx_s
set_option maxRecDepth 100000 in
/-- X10.come: four bytes more -/
theorem cm_run {d t : Nat} {w : Int32} {h0 h : xh_H} (hn : 72 ≤ h0.1.length) (hk0 : hk cm_md h0 h) (ht : xg 0 h.2.1 39 2 = nI t) (t6 : t + 4 ≤ 640) : xt_P d xi_X10_come xmi_X10_come 0 [(0, .ref 39), (1, .int w)] [] h (fun v h' => v = none ∧ hk cm_md h0 h' ∧ xg 0 h'.2.1 39 2 = nI (t + 4)) := by
  refine xa_tn 3 [0, 1, 2] [(0, .ref 39), (1, .int w), (2, .int 24)] [] h [] 4 (hk_q hk0 hn) rfl trivial (fun _ => ?_)
  refine cm_step hn hk0 ht (by omega) (by decide) (fun h1 k1 e1 => ?_)
  refine cm_step hn k1 e1 (by omega) (by decide) (fun h2 k2 e2 => ?_)
  refine cm_step hn k2 e2 (by omega) (by decide) (fun h3 k3 e3 => ?_)
  refine cm_step hn k3 e3 (by omega) (by decide) (fun h4 k4 e4 => ?_)
  refine xa_tn 39 [] [] [] h4 [true] 4 (hk_q k4 hn) rfl ⟨by decide, trivial⟩ (fun _ => ?_)
  exact xp_ret rfl rfl rfl ⟨rfl, k4, e4⟩
set_option maxRecDepth 100000 in
set_option maxHeartbeats 4000000 in
/-- X10.feed -/
theorem f10_run {d t : Nat} {a b c d4 e5 : Int32} {h : xh_H} (hn : 72 ≤ h.1.length) (hi : a_inv a_tb h) (ht : xg 0 h.2.1 39 2 = nI t) (t6 : t ≤ 640) : xt_P (d + 1) xi_X10_feed xmi_X10_feed 0 [(0, .ref 39), (1, .int a), (2, .int b), (3, .int c), (4, .int d4), (5, .int e5)] [] h (fun v h' => hk cm_md h h' ∧ v = some (.int (fe_a t)) ∧ xg 0 h'.2.1 39 2 = nI (fe_t t)) := by
  have hq := a_rq_of hi.1 hn
  have z : (640 : Int32).toInt = 640 := rfl
  have hk0 : hk cm_md h (xh_ui h 39 0 (Int32.ofInt 0)) := hk_ui (s := (0, 10)) (lo := 0) (hi := 1) (hk_0 hi) hn rfl rfl (by decide) (by decide) rfl rfl
  have e0 : xg 0 (xh_ui h 39 0 (Int32.ofInt 0)).2.1 39 2 = nI t := by rw [gx_k (by decide)]; exact ht
  unfold fe_a fe_t
  by_cases hr : t + 20 ≤ 640
  · rw [if_pos hr, if_pos hr]
    refine xa_tn 22 [0, 1, 2, 3, 4, 5] [(0, .ref 39), (1, .int a), (2, .int b), (3, .int c), (4, .int d4), (5, .int e5)] [.int a, .ref 39] (xh_ui h 39 0 (Int32.ofInt 0)) [true] 13 hq rfl ⟨xle_t (show ((xg 0 (xh_ui h 39 0 (Int32.ofInt 0)).2.1 39 2) + 20).toInt ≤ (640 : Int32).toInt by rw [e0, fe_s t6, z]; omega), trivial⟩ (fun _ => ?_)
    refine xp_run (hk_q hk0 hn) rfl rfl (cm_run (d := d) (h0 := h) hn hk0 e0 (by omega)) ?_
    rintro v g1 ⟨rfl, k1, e1⟩
    refine xa_tn 27 [0, 1, 2, 3, 4, 5] [(0, .ref 39), (1, .int a), (2, .int b), (3, .int c), (4, .int d4), (5, .int e5)] [.int b, .ref 39] g1 [] 4 (hk_q k1 hn) rfl trivial (fun _ => ?_)
    refine xp_run (hk_q k1 hn) rfl rfl (cm_run (d := d) (h0 := h) hn k1 e1 (by omega)) ?_
    rintro v g2 ⟨rfl, k2, e2⟩
    refine xa_tn 32 [0, 1, 2, 3, 4, 5] [(0, .ref 39), (1, .int a), (2, .int b), (3, .int c), (4, .int d4), (5, .int e5)] [.int c, .ref 39] g2 [] 4 (hk_q k2 hn) rfl trivial (fun _ => ?_)
    refine xp_run (hk_q k2 hn) rfl rfl (cm_run (d := d) (h0 := h) hn k2 e2 (by omega)) ?_
    rintro v g3 ⟨rfl, k3, e3⟩
    refine xa_tn 38 [0, 1, 2, 3, 4, 5] [(0, .ref 39), (1, .int a), (2, .int b), (3, .int c), (4, .int d4), (5, .int e5)] [.int d4, .ref 39] g3 [] 4 (hk_q k3 hn) rfl trivial (fun _ => ?_)
    refine xp_run (hk_q k3 hn) rfl rfl (cm_run (d := d) (h0 := h) hn k3 e3 (by omega)) ?_
    rintro v g4 ⟨rfl, k4, e4⟩
    refine xa_tn 44 [0, 1, 2, 3, 4, 5] [(0, .ref 39), (1, .int a), (2, .int b), (3, .int c), (4, .int d4), (5, .int e5)] [.int e5, .ref 39] g4 [] 4 (hk_q k4 hn) rfl trivial (fun _ => ?_)
    refine xp_run (hk_q k4 hn) rfl rfl (cm_run (d := d) (h0 := h) hn k4 e4 (by omega)) ?_
    rintro v g5 ⟨rfl, k5, e5'⟩
    refine xa_tn 51 [] [] [.int (xg 0 g5.2.1 39 2)] g5 [] 4 (hk_q k5 hn) rfl trivial (fun _ => ?_)
    exact xp_ret rfl rfl rfl ⟨k5, by rw [e5'], e5'⟩
  · rw [if_neg hr, if_neg hr]
    refine xa_tn 19 [] [] [.int (Int32.ofInt (-1))] (xh_ui h 39 0 (Int32.ofInt 0)) [false] 12 hq rfl ⟨xle_f (show (640 : Int32).toInt < ((xg 0 (xh_ui h 39 0 (Int32.ofInt 0)).2.1 39 2) + 20).toInt by rw [e0, fe_s t6, z]; omega), trivial⟩ (fun _ => ?_)
    exact xp_ret rfl rfl rfl ⟨hk0, rfl, e0⟩
/-- what end answers, and the tape's length behind it -/
def en_ok (t : Nat) (n : Int32) : Bool := decide (0 ≤ n.toInt ∧ n.toInt ≤ (t : Int))
def en_t (t : Nat) (n : Int32) : Nat := cond (en_ok t n) n.toInt.toNat t
theorem en_t6 {t : Nat} {n : Int32} (h : t ≤ 640) : en_t t n ≤ 640 := by
  unfold en_t
  cases hb : en_ok t n with
  | false => exact h
  | true =>
    have := of_decide_eq_true hb
    show n.toInt.toNat ≤ 640
    omega
theorem en_n {t : Nat} {n : Int32} (h1 : 0 ≤ n.toInt) : n = nI n.toInt.toNat := by
  obtain ⟨e, l⟩ := a_nIx h1
  exact e
set_option maxRecDepth 100000 in
theorem e9_run {d t : Nat} {n : Int32} {h : xh_H} (hn : 72 ≤ h.1.length) (hi : a_inv a_tb h) (ht : xg 0 h.2.1 1 1 = nI t) (t6 : t ≤ 640) : xt_P d xi_X9_end xmi_X9_end 0 [(0, .ref 0), (1, .int n)] [] h (fun v h' => hk [(1, 1)] h h' ∧ v = some (.int (bl (en_ok t n))) ∧ xg 0 h'.2.1 1 1 = nI (en_t t n)) := by
  have hq := a_rq_of hi.1 hn
  have ti := nI_toInt (n := t) (by omega)
  unfold en_t
  cases c1 : xe_c .lt n 0 with
  | true =>
    have b1 : n.toInt < (0 : Int) := a_ce c1
    have eb : en_ok t n = false := decide_eq_false (by omega)
    rw [eb]
    refine xa_tn 16 [] [] [.int (Int32.ofInt 0)] h [true] 5 hq rfl ⟨c1, trivial⟩ (fun _ => ?_)
    exact xp_ret rfl rfl rfl ⟨hk_0 hi, rfl, ht⟩
  | false =>
    have b1 : (0 : Int) ≤ n.toInt := a_ce (a_neg_ok c1)
    by_cases hr : n.toInt ≤ (t : Int)
    · have eb : en_ok t n = true := decide_eq_true ⟨b1, hr⟩
      rw [eb]
      refine xa_tn 26 [] [] [.int (Int32.ofInt 1)] (xh_ui h 1 1 n) [false, true] 14 hq rfl ⟨c1, xle_t (show n.toInt ≤ (xg 0 h.2.1 1 1).toInt by rw [ht, ti]; exact hr), trivial⟩ (fun _ => ?_)
      exact xp_ret rfl rfl rfl ⟨hk_ui (s := (0, 8)) (lo := 0) (hi := 640) (hk_0 hi) hn rfl rfl (by omega) (by omega) rfl rfl, rfl, gx_s.trans (en_n (t := t) b1)⟩
    · have eb : en_ok t n = false := decide_eq_false (by omega)
      rw [eb]
      refine xa_tn 16 [] [] [.int (Int32.ofInt 0)] h [false, false] 10 hq rfl ⟨c1, xle_f (show (xg 0 h.2.1 1 1).toInt < n.toInt by rw [ht, ti]; omega), trivial⟩ (fun _ => ?_)
      exact xp_ret rfl rfl rfl ⟨hk_0 hi, rfl, ht⟩
set_option maxRecDepth 100000 in
theorem e10_run {d t : Nat} {n : Int32} {h : xh_H} (hn : 72 ≤ h.1.length) (hi : a_inv a_tb h) (ht : xg 0 h.2.1 39 2 = nI t) (t6 : t ≤ 640) : xt_P d xi_X10_end xmi_X10_end 0 [(0, .ref 39), (1, .int n)] [] h (fun v h' => hk [(39, 0), (39, 2)] h h' ∧ v = some (.int (bl (en_ok t n))) ∧ xg 0 h'.2.1 39 2 = nI (en_t t n)) := by
  have hq := a_rq_of hi.1 hn
  have ti := nI_toInt (n := t) (by omega)
  have hk0 : hk [(39, 0), (39, 2)] h (xh_ui h 39 0 (Int32.ofInt 0)) := hk_ui (s := (0, 10)) (lo := 0) (hi := 1) (hk_0 hi) hn rfl rfl (by decide) (by decide) rfl rfl
  have e0 : xg 0 (xh_ui h 39 0 (Int32.ofInt 0)).2.1 39 2 = nI t := by rw [gx_k (by decide)]; exact ht
  unfold en_t
  cases c1 : xe_c .lt n 0 with
  | true =>
    have b1 : n.toInt < (0 : Int) := a_ce c1
    have eb : en_ok t n = false := decide_eq_false (by omega)
    rw [eb]
    refine xa_tn 18 [] [] [.int (Int32.ofInt 0)] (xh_ui h 39 0 (Int32.ofInt 0)) [true] 8 hq rfl ⟨c1, trivial⟩ (fun _ => ?_)
    exact xp_ret rfl rfl rfl ⟨hk0, rfl, e0⟩
  | false =>
    have b1 : (0 : Int) ≤ n.toInt := a_ce (a_neg_ok c1)
    by_cases hr : n.toInt ≤ (t : Int)
    · have eb : en_ok t n = true := decide_eq_true ⟨b1, hr⟩
      rw [eb]
      refine xa_tn 25 [] [] [.int (Int32.ofInt 1)] (xh_ui (xh_ui h 39 0 (Int32.ofInt 0)) 39 2 n) [false, true] 15 hq rfl ⟨c1, xle_t (show n.toInt ≤ (xg 0 (xh_ui h 39 0 (Int32.ofInt 0)).2.1 39 2).toInt by rw [e0, ti]; exact hr), trivial⟩ (fun _ => ?_)
      exact xp_ret rfl rfl rfl ⟨hk_ui (s := (0, 10)) (lo := 0) (hi := 640) hk0 hn rfl rfl (by omega) (by omega) rfl rfl, rfl, gx_s.trans (en_n (t := t) b1)⟩
    · have eb : en_ok t n = false := decide_eq_false (by omega)
      rw [eb]
      refine xa_tn 18 [] [] [.int (Int32.ofInt 0)] (xh_ui h 39 0 (Int32.ofInt 0)) [false, false] 12 hq rfl ⟨c1, xle_f (show (xg 0 (xh_ui h 39 0 (Int32.ofInt 0)).2.1 39 2).toInt < n.toInt by rw [e0, ti]; omega), trivial⟩ (fun _ => ?_)
      exact xp_ret rfl rfl rfl ⟨hk0, rfl, e0⟩
end XTP
