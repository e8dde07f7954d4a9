section XFI
def lb (w : Int64) (k : Nat) : Bool := !(decide (lg_cmp ((w.toUInt64 >>> ((nI k).toInt64.toUInt64 &&& Int64.toUInt64 63)).toInt64 &&& 1) 0 = 0))
theorem sh64 : ∀ k, k < 64 → (nI k).toInt64.toUInt64 &&& Int64.toUInt64 63 = UInt64.ofNat k := by decide +kernel
theorem sh64i : ∀ k, k < 64 → ((nI k).toInt64 &&& 63 : Int64) = Int64.ofNat k := by decide +kernel
theorem lb_g {w : Int64} {k : Nat} (hk : k < 64) : lb w k = w.toBitVec.getLsbD k := by
  unfold lb
  rw [sh64 k hk]
  have e : ((w.toUInt64 >>> UInt64.ofNat k).toInt64 &&& 1).toBitVec = (w.toBitVec >>> k) &&& 1#64 := by
    have : k % 64 = k := Nat.mod_eq_of_lt hk
    have h2 : k % 18446744073709551616 % 64 = k := by omega
    simp [Int64.toBitVec_and, UInt64.toBitVec_shiftRight, h2, this]
  cases h : w.toBitVec.getLsbD k with
  | false =>
    have : ((w.toUInt64 >>> UInt64.ofNat k).toInt64 &&& 1) = 0 := by
      apply Int64.toBitVec_inj.mp
      rw [e]
      apply BitVec.eq_of_getLsbD_eq
      intro i hi
      rw [BitVec.getLsbD_and, BitVec.getLsbD_ushiftRight, BitVec.getLsbD_one]
      by_cases z : i = 0
      · subst z
        rw [Nat.add_zero, h]
        rfl
      · simp [z]
    rw [decide_eq_true (lg0.mpr this)]
    rfl
  | true =>
    have : ((w.toUInt64 >>> UInt64.ofNat k).toInt64 &&& 1) ≠ 0 := by
      intro z
      have z2 := congrArg (fun x => x.toBitVec.getLsbD 0) z
      simp only [e, BitVec.getLsbD_and, BitVec.getLsbD_ushiftRight, BitVec.getLsbD_one, Nat.add_zero, h] at z2
      exact absurd z2 (by decide)
    rw [decide_eq_false (fun y => this (lg0.mp y))]
    rfl
theorem lb_0 {k : Nat} (hk : k < 64) : lb 0 k = false := by
  rw [lb_g hk]
  exact BitVec.getLsbD_zero
theorem lb_or {w : Int64} {j k : Nat} (hj : j < 64) (hk : k < 64) : lb (w ||| (1 <<< ((nI j).toInt64 &&& 63))) k = (lb w k || decide (j = k)) := by
  rw [lb_g hk, lb_g hk, sh64i j hj]
  have e : (w ||| (1 <<< Int64.ofNat j)).toBitVec = w.toBitVec ||| (1#64 <<< j) := by
    have h2 : (Int64.ofNat j).toBitVec.smod 64 = BitVec.ofNat 64 j := by
      revert hj; revert j
      decide +kernel
    have h3 : (BitVec.ofNat 64 j).toNat = j := by simp; omega
    rw [Int64.toBitVec_or, Int64.toBitVec_shiftLeft, h2]
    rw [BitVec.shiftLeft_eq', h3]
    rfl
  rw [e, BitVec.getLsbD_or, BitVec.getLsbD_shiftLeft, BitVec.getLsbD_one]
  by_cases z : j = k
  · subst z
    simp [hj]
  · rw [show decide (j = k) = false from decide_eq_false z]
    congr 1
    by_cases y : k < j
    · simp [y]
    · simp [y]; omega
theorem hv_lb {h : xh_H} {r s : Nat} : hv h r s = lb (xg 0 h.2.2.1 r (s / 64)) (s % 64) := rfl
theorem xe_ls {c len pc nL rK ri d n ra rb : Nat} {lv : List (Nat × Value)} {q : List Value} {h : xh_H} {x : Int64} {i : Int32} (hs : h.1[c]? = some (4, n)) (hi : xe_in i n = true) : xe_2 none nL (.lastore, len, ra, rb, rK, ri) d pc lv (.long x :: .int i :: .ref c :: q) h 0 0 = some (pc + 1, lv, q, xh_ul h c i.toNatClampNeg x, 0, 0) := by
  simp [xe_2, xe_1, xp_lir, hs, hi]
set_option maxRecDepth 100000 in
set_option maxHeartbeats 4000000 in
/-- Statute.add -/
theorem ad_run {d q r s : Nat} {h : xh_H} (hrq : a_rq a_tb h) (hs : h.1[q]? = some (0, 7)) (hg : xg none h.2.2.2 q 1 = some r) (hr : h.1[r]? = some (4, 64)) (s12 : s < 4096) : xt_P d xi_X7_add xmi_X7_add 0 [(0, .ref q), (1, .int (nI s))] [] h (fun v h' => v = none ∧ h' = xh_ul h r (s / 64) ((xg 0 h.2.2.1 r (s / 64)) ||| (1 <<< ((nI (s % 64)).toInt64 &&& 63)))) := by
  have e6 : nI s >>> ((6 : Int32) &&& 31) = nI (s / 64) := nI_shr (a := s) (k := 6) (by omega) (by decide)
  have l6 : s / 64 < 64 := by omega
  have i6 := nI_toInt (n := s / 64) (by omega)
  have z0 : (0 : Int32).toInt = 0 := rfl
  have a63 : nI s &&& (63 : Int32) = nI (s % 64) := by
    rw [show (63 : Int32) = nI 63 from rfl, nI_and, show 63 = 2 ^ 6 - 1 from rfl, Nat.and_two_pow_sub_one_eq_mod]
  refine xa_tn 16 [1, 2] [(1, .int (nI s)), (2, .int ((nI s) >>> (6 &&& 31)))] [.ref q] h [false, false] 12 hrq rfl ⟨(show xe_c .lt ((nI s) >>> (6 &&& 31)) 0 = false by rw [e6]; exact xlt_f (by omega)), (show xe_c .ge ((nI s) >>> (6 &&& 31)) 64 = false by rw [e6]; exact nge_f (b := 64) (by omega) (by omega) l6), trivial⟩ (fun _ => ?_)
  rw [e6]
  refine xp_step rfl rfl (xe_gr hs rfl hg) ?_
  refine xa_tn 21 [1] [(1, .int (nI s))] [.int (nI (s / 64)), .ref r, .int (nI (s / 64)), .ref r] h [] 4 hrq rfl trivial (fun _ => ?_)
  refine xp_step rfl rfl (xe_la hr (xin_n l6 (by omega))) ?_
  rw [nI_clamp (by omega)]
  refine xa_tn 29 [] [] [.long ((xg 0 h.2.2.1 r (s / 64)) ||| (1 <<< (((nI s) &&& 63).toInt64 &&& 63))), .int (nI (s / 64)), .ref r] h [] 9 hrq rfl trivial (fun _ => ?_)
  rw [a63]
  refine xp_step rfl rfl (xe_ls hr (xin_n l6 (by omega))) ?_
  rw [nI_clamp (by omega)]
  exact xp_ret rfl rfl rfl ⟨rfl, rfl⟩
theorem hv_ad {h : xh_H} {r s t : Nat} (t12 : t < 4096) : hv (xh_ul h r (s / 64) ((xg 0 h.2.2.1 r (s / 64)) ||| (1 <<< ((nI (s % 64)).toInt64 &&& 63)))) r t = (hv h r t || decide (s = t)) := by
  rw [hv_lb, hv_lb]
  by_cases e : t / 64 = s / 64
  · rw [e, gl_s, lb_or (by omega) (by omega)]
    congr 1
    by_cases z : s % 64 = t % 64
    · rw [decide_eq_true z, decide_eq_true (show s = t by omega)]
    · rw [decide_eq_false z, decide_eq_false (fun y => z (by rw [y]))]
  · rw [gl_k e, decide_eq_false (fun y => e (by rw [y])), Bool.or_false]
def Lr (r c _k : Nat) : Bool := Nat.beq c r
theorem hv_f {S L : Nat → Nat → Bool} {h h' : xh_H} {r s : Nat} (g : fx S L h h') (e : ∀ k, L r k = false) : hv h' r s = hv h r s := by
  unfold hv
  rw [fx_l g (e _)]
set_option maxRecDepth 100000 in
set_option maxHeartbeats 4000000 in
theorem fl_lp {q r s mem : Nat} {P : cdL} {y : Bool} {h0 : xh_H} (m12 : mem ≤ 12) (s4 : s < 4096) (hs : h0.1[q]? = some (0, 7)) (hg : xg none h0.2.2.2 q 1 = some r) (hr : h0.1[r]? = some (4, 64)) (l4 : P.length < 400) (hP : ∀ sv, sv < 4096 → ∃ y nm, px (nI sv) P ([], nI 0) = some ([bl y], nm)) (hy : ∃ nm, px (nI s) P ([], nI 0) = some ([bl y], nm)) : ∀ (f i : Nat) (h : xh_H), a_rq a_tb h → fx F7 (Lr r) h0 h → ptx h P → i ≤ 2 ^ mem → hv h r s = (decide (s < i) && y) → xq f xi_X3_fill xmi_X3_fill 2 [(0, .ref 4), (1, .ref q), (2, .int (nI mem)), (3, .int (nI i))] [] h (fun v h' => v = none ∧ fx F7 (Lr r) h0 h' ∧ hv h' r s = (decide (s < 2 ^ mem) && y)) := by
  have p12 : 2 ^ mem ≤ 4096 := show 2 ^ mem ≤ 2 ^ 12 from Nat.pow_le_pow_right (by decide) m12
  intro f
  induction f with
  | zero => intros; exact xq_0
  | succ f ih =>
    intro i h hq ge pt i6 w
    cases c1 : xe_c .ge (nI i) (nI (2 ^ mem)) with
    | true =>
      have z1 : i ≥ (2 ^ mem) := nq_get (a := i) (b := (2 ^ mem)) (by omega) (by omega) c1
      refine xq_m 28 [] [] [] h [true] 7 hq rfl ⟨(show xe_c .ge (nI i) ((Int32.ofInt 1) <<< ((nI mem) &&& 31)) = true by rw [show ((Int32.ofInt 1) <<< ((nI mem) &&& 31)) = nI (2 ^ mem) from sh1 mem (by omega)]; exact c1), trivial⟩ (fun hq => ?_)
      exact xq_ret rfl rfl rfl ⟨rfl, ge, by rw [w, show i = 2 ^ mem by omega]⟩
    | false =>
      have z1 : i < (2 ^ mem) := nq_gef (a := i) (b := (2 ^ mem)) (by omega) (by omega) c1
      refine xq_m 11 [0, 1, 2, 3] [(0, .ref 4), (1, .ref q), (2, .int (nI mem)), (3, .int (nI i))] [.int (nI i), .ref 4] h [false] 9 hq rfl ⟨(show xe_c .ge (nI i) ((Int32.ofInt 1) <<< ((nI mem) &&& 31)) = false by rw [show ((Int32.ofInt 1) <<< ((nI mem) &&& 31)) = nI (2 ^ mem) from sh1 mem (by omega)]; exact c1), trivial⟩ (fun hq => ?_)
      obtain ⟨y2, nm2, hp2⟩ := hP i (by omega)
      refine xq_run hq rfl rfl (run_q l4 pt hp2 hq) ?_
      rintro v2 h2 ⟨g2, rfl⟩
      have hq := fx_q g2 hq
      have ge := fx_t ge (fx_w g2 (fun _ _ z => z) (fun _ _ _ => rfl))
      have pt := ptx_f pt g2 rfl (fun _ => rfl) (fun _ => rfl)
      have w : hv h2 r s = (decide (s < i) && y) := (hv_f g2 (fun _ => rfl)).trans w
      cases b3 : y2 with
      | true =>
        refine xq_n 19 [0, 1, 2, 3] [(0, .ref 4), (1, .ref q), (2, .int (nI mem)), (3, .int (nI i))] [.int (nI i), .ref q] h2 [false] 5 hq rfl ⟨rfl, trivial⟩ (fun hq => ?_)
        have hs' : h2.1[q]? = some (0, 7) := by rw [ge.1]; exact hs
        have hr' : h2.1[r]? = some (4, 64) := by rw [ge.1]; exact hr
        have hg' : xg none h2.2.2.2 q 1 = some r := by rw [ge.2.1]; exact hg
        refine xq_cr (As := [.ref q, .int (nI i)]) (mj := xmi_X7_add) (q := []) rfl rfl (fun _ _ => rfl) (xa_cs_ok (d := 0) (pc := 0) (lv := []) (nL := 0) hs' rfl).1 (fun f => xq_of (d := 0) ⟨_, rfl⟩ (ad_run hq hs' hg' hr' (by omega))) ?_
        rintro v4 h4 ⟨rfl, rfl⟩
        have hq : a_rq a_tb (xh_ul h2 r (i / 64) ((xg 0 h2.2.2.1 r (i / 64)) ||| (1 <<< ((nI (i % 64)).toInt64 &&& 63)))) := a_rq_ul hq
        refine xq_n 2 [0, 1, 2, 3] [(0, .ref 4), (1, .ref q), (2, .int (nI mem)), (3, .int ((nI i) + Int32.ofInt 1))] [] (xh_ul h2 r (i / 64) ((xg 0 h2.2.2.1 r (i / 64)) ||| (1 <<< ((nI (i % 64)).toInt64 &&& 63)))) [] 4 hq rfl trivial (fun hq => ?_)
        rw [show ((nI i) + Int32.ofInt 1) = nI (i + 1) from nI_1 _]
        refine ih (i + 1) _ hq (fx_ul ge (Nat.beq_refl r)) (ptx_f (S := fN) (L := Lr r) pt (fx_ul fx_0 (Nat.beq_refl r)) rfl (fun _ => rfl) (fun _ => rfl)) (by omega) ?_
        rw [hv_ad s4, w]
        by_cases e : i = s
        · obtain ⟨nm', hy'⟩ := hy
          rw [← e, hp2] at hy'
          have e3 := Option.some.inj hy'
          have e4 : bl y2 = bl y := by have e5 := congrArg (fun z => z.1) e3; exact (List.cons.inj e5).1
          have e6 : y = true := by rw [b3] at e4; cases y <;> first | rfl | exact absurd e4 (by decide)
          rw [e6, decide_eq_false (show ¬ s < i by omega), decide_eq_true (show s < i + 1 by omega), decide_eq_true e]; rfl
        · rw [decide_eq_false e, Bool.or_false]; by_cases z : s < i
          · rw [decide_eq_true z, decide_eq_true (show s < i + 1 by omega)]
          · rw [decide_eq_false z, decide_eq_false (show ¬ s < i + 1 by omega)]
      | false =>
        refine xq_n 2 [0, 1, 2, 3] [(0, .ref 4), (1, .ref q), (2, .int (nI mem)), (3, .int ((nI i) + Int32.ofInt 1))] [] h2 [true] 5 hq rfl ⟨rfl, trivial⟩ (fun hq => ?_)
        rw [show ((nI i) + Int32.ofInt 1) = nI (i + 1) from nI_1 _]
        refine ih (i + 1) _ hq ge pt (by omega) ?_
        rw [w]
        by_cases e : i = s
        · obtain ⟨nm', hy'⟩ := hy
          rw [← e, hp2] at hy'
          have e3 := Option.some.inj hy'
          have e4 : bl y2 = bl y := by have e5 := congrArg (fun z => z.1) e3; exact (List.cons.inj e5).1
          have e6 : y = false := by rw [b3] at e4; cases y <;> first | rfl | exact absurd e4 (by decide)
          rw [e6, decide_eq_false (show ¬ s < i by omega), decide_eq_true (show s < i + 1 by omega)]; rfl
        · by_cases z : s < i
          · rw [decide_eq_true z, decide_eq_true (show s < i + 1 by omega)]
          · rw [decide_eq_false z, decide_eq_false (show ¬ s < i + 1 by omega)]
set_option maxRecDepth 100000 in
/-- Program.fill -/
theorem fl_q {f q r s mem : Nat} {P : cdL} {y : Bool} {h : xh_H} (m12 : mem ≤ 12) (s4 : s < 4096) (hs : h.1[q]? = some (0, 7)) (hg : xg none h.2.2.2 q 1 = some r) (hr : h.1[r]? = some (4, 64)) (l4 : P.length < 400) (hP : ∀ sv, sv < 4096 → ∃ y nm, px (nI sv) P ([], nI 0) = some ([bl y], nm)) (hy : ∃ nm, px (nI s) P ([], nI 0) = some ([bl y], nm)) (pt : ptx h P) (z : hv h r s = false) (hq : a_rq a_tb h) : xq f xi_X3_fill xmi_X3_fill 0 [(0, .ref 4), (1, .ref q), (2, .int (nI mem))] [] h (fun v h' => v = none ∧ fx F7 (Lr r) h h' ∧ hv h' r s = (decide (s < 2 ^ mem) && y)) := by
  refine xq_n 2 [0, 1, 2, 3] [(0, .ref 4), (1, .ref q), (2, .int (nI mem)), (3, .int (Int32.ofInt 0))] [] h [] 4 hq rfl trivial (fun hq => ?_)
  exact fl_lp m12 s4 hs hg hr l4 hP hy f 0 h hq fx_0 pt (Nat.zero_le _) (by rw [z]; rfl)
end XFI
