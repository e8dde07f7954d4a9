section XSB
/-- share answers -/
def so_ok (h : xh_H) (a b d : Int32) : Prop := (0 ≤ a.toInt ∧ a.toInt < (xg 0 h.2.1 0 9).toInt) ∧ 0 ≤ b.toInt ∧ b.toInt ≤ 2 ∧ 0 ≤ d.toInt ∧ d.toInt ≤ 1
set_option maxRecDepth 100000 in
theorem im9 {d : Nat} {a : Int32} {h : xh_H} (hq : a_rq a_tb h) : xt_P d xi_X9_isMember xmi_X9_isMember 0 [(0, .ref 0), (1, .int a)] [] h (fun v h' => h = h' ∧ v = some (.int (bl (decide (0 ≤ a.toInt ∧ a.toInt < (xg 0 h.2.1 0 9).toInt))))) := by
  cases c1 : xe_c .lt a 0 with
  | true =>
    have b1 : a.toInt < (0 : Int) := a_ce c1
    refine xa_tn 17 [] [] [.int (Int32.ofInt 0)] h [true] 12 hq rfl ⟨c1, trivial⟩ (fun _ => ?_)
    refine xp_ret rfl rfl rfl ⟨rfl, ?_⟩
    rw [decide_eq_false (by omega)]
    rfl
  | false =>
    have b1 : (0 : Int) ≤ a.toInt := a_ce (a_neg_ok c1)
    cases c2 : xe_c .ge a (xg 0 h.2.1 0 9) with
    | true =>
      have b2 : (xg 0 h.2.1 0 9).toInt ≤ a.toInt := a_ce c2
      refine xa_tn 17 [] [] [.int (Int32.ofInt 0)] h [false, true] 12 hq rfl ⟨c1, c2, trivial⟩ (fun _ => ?_)
      refine xp_ret rfl rfl rfl ⟨rfl, ?_⟩
      rw [decide_eq_false (by omega)]
      rfl
    | false =>
      have b2 : a.toInt < (xg 0 h.2.1 0 9).toInt := a_ce (a_neg_ok c2)
      refine xa_tn 17 [] [] [.int (Int32.ofInt 1)] h [false, false] 12 hq rfl ⟨c1, c2, trivial⟩ (fun _ => ?_)
      refine xp_ret rfl rfl rfl ⟨rfl, ?_⟩
      rw [decide_eq_true ⟨b1, b2⟩]
      rfl
set_option maxRecDepth 100000 in
set_option maxHeartbeats 8000000 in
theorem cs_bad {a b d : Int32} {h : xh_H} (hq : a_rq a_tb h) (hno : ¬ so_ok h a b d) : xV none 26 48 xi_X9_share xmi_X9_share (0, lv_args 0 [.ref 0, .int a, .int b, .int d], [], h, 0, 0) (26, lv_args 0 [.ref 0, .int a, .int b, .int d], [], h, 0, 0) := by
  have fin : xV none 26 48 xi_X9_share xmi_X9_share (26, lv_args 0 [.ref 0, .int a, .int b, .int d], [], h, 0, 0) (26, lv_args 0 [.ref 0, .int a, .int b, .int d], [], h, 0, 0) := xV_stop
  refine xV_step (o1 := (1, lv_args 0 [.ref 0, .int a, .int b, .int d], [.ref 0], h, 0, 0)) rfl rfl rfl rfl ?_
  refine xV_step (o1 := (2, lv_args 0 [.ref 0, .int a, .int b, .int d], [.int a, .ref 0], h, 0, 0)) rfl rfl rfl rfl ?_
  obtain ⟨v, h', r, rfl, rfl⟩ := im9 (d := 47) (a := a) hq
  refine xV_call (d := 47) rfl rfl rfl rfl (xa_c_ok (d := 47) (pc := 2) (lv := lv_args 0 [.ref 0, .int a, .int b, .int d]) (nL := 11) hq rfl).1 r ?_
  by_cases h1 : 0 ≤ a.toInt ∧ a.toInt < (xg 0 h.2.1 0 9).toInt
  · rw [decide_eq_true h1]
    refine xV_if false rfl rfl rfl ?_
    refine xV_step (o1 := (9, lv_args 0 [.ref 0, .int a, .int b, .int d], [.int b], h, 0, 0)) rfl rfl rfl rfl ?_
    cases c1 : xe_c .lt b 0 with
    | true => exact xV_if true rfl rfl c1 fin
    | false =>
      have b1 : (0 : Int) ≤ b.toInt := a_ce (a_neg_ok c1)
      refine xV_if false rfl rfl c1 ?_
      refine xV_step (o1 := (13, lv_args 0 [.ref 0, .int a, .int b, .int d], [.int b], h, 0, 0)) rfl rfl rfl rfl ?_
      refine xV_step (o1 := (14, lv_args 0 [.ref 0, .int a, .int b, .int d], [.int (Int32.ofInt 2), .int b], h, 0, 0)) rfl rfl rfl rfl ?_
      cases c2 : xe_c .gt b (Int32.ofInt 2) with
      | true => exact xV_ic true rfl rfl c2 fin
      | false =>
        have b2 : b.toInt ≤ (2 : Int) := a_ce (a_neg_ok c2)
        refine xV_ic false rfl rfl c2 ?_
        refine xV_step (o1 := (18, lv_args 0 [.ref 0, .int a, .int b, .int d], [.int d], h, 0, 0)) rfl rfl rfl rfl ?_
        cases c3 : xe_c .lt d 0 with
        | true => exact xV_if true rfl rfl c3 fin
        | false =>
          have b3 : (0 : Int) ≤ d.toInt := a_ce (a_neg_ok c3)
          refine xV_if false rfl rfl c3 ?_
          refine xV_step (o1 := (22, lv_args 0 [.ref 0, .int a, .int b, .int d], [.int d], h, 0, 0)) rfl rfl rfl rfl ?_
          refine xV_step (o1 := (23, lv_args 0 [.ref 0, .int a, .int b, .int d], [.int (Int32.ofInt 1), .int d], h, 0, 0)) rfl rfl rfl rfl ?_
          cases c4 : xe_c .le d (Int32.ofInt 1) with
          | true =>
            have b4 : d.toInt ≤ (1 : Int) := a_ce c4
            exact absurd ⟨h1, b1, b2, b3, b4⟩ hno
          | false => exact xV_ic false rfl rfl c4 fin
  · rw [decide_eq_false h1]
    exact xV_if true rfl rfl rfl fin
theorem shG_ok {a b d : Int32} {mem : Nat} {h : xh_H} (m12 : mem ≤ 12) (e9 : xg 0 h.2.1 0 9 = nI mem) : shG mem a b d = true ↔ so_ok h a b d := by
  have e : (nI mem).toInt = (mem : Int) := nI_toInt (by omega)
  have z0 : (Int32.ofInt 0).toInt = 0 := by decide
  have z1 : (Int32.ofInt 1).toInt = 1 := by decide
  have z2 : (Int32.ofInt 2).toInt = 2 := by decide
  unfold shG so_ok isM
  rw [e9, e, Bool.and_eq_true, Bool.and_eq_true, Bool.and_eq_true, Bool.not_eq_true', Bool.not_eq_true', decide_eq_true_eq, decide_eq_true_eq, z0, z1, z2]
  constructor
  · rintro ⟨⟨h1, h2⟩, h3, h4⟩
    have b1 : (0 : Int) ≤ a.toInt := a_ce (a_neg_ok h1)
    have b2 : a.toInt < (nI mem).toInt := a_ce (a_neg_ok h2)
    rw [e] at b2
    exact ⟨⟨b1, b2⟩, h3.1, h3.2, h4.1, h4.2⟩
  · rintro ⟨⟨h1, h2⟩, h3, h4, h5, h6⟩
    exact ⟨⟨xlt_f h1, xge_f (by rw [e]; exact h2)⟩, ⟨h3, h4⟩, h5, h6⟩
/-- ahead of the reference's share: what the class has answered -/
def shC (h : xh_H) (a b d x : Int32) : Prop := ∃ (mem sc : Nat) (td : Int32) (FR RW : Nat → Int32), mem ≤ 12 ∧ xg 0 h.2.1 39 4 = nI mem ∧ xg 0 h.2.1 39 33 = nI sc ∧ sc ≤ 8 ∧ xg 0 h.2.1 39 3 = td ∧ (∀ k, k < sc → xg 0 h.2.1 51 k = FR k) ∧ (∀ k, k < sc → (xg 0 h.2.1 52 k).toInt ≤ 999) ∧ (∀ k s, k < sc → s < 2 ^ mem → ∃ b : Bool, RW (4096 * k + s) = bl b ∧ xg 0 h.2.1 44 (4096 * k + s) = bl b) ∧ ((shG mem a b d = true ∧ x = 0 ∧ xg 0 h.2.2.1 71 0 = shV (cvB FR RW mem sc td) mem a.toInt.toNat b.toInt.toNat (xe_c .ne d 0)) ∨ (shG mem a b d = false ∧ x = 1))
theorem shC_bad {a b d : Int32} {h : xh_H} (I : lc_I h) (hno : ¬ so_ok h a b d) : shC h a b d 1 := by
  obtain ⟨-, ⟨mem, m12, e9, e4⟩, ⟨sc, sc8, e8, e33⟩, ⟨td, td9, e10, e3⟩, -, -, -, -, -, si, -, pi⟩ := I.2.2.2
  have sr := SI_r si e9 m12 e8 sc8
  refine ⟨mem, sc, nI td, fun k => xg 0 h.2.1 51 k, fun k => xg 0 h.2.1 44 k, m12, e4, e33, sc8, e3, fun _ _ => rfl, sr.1, fun k s hk' hs => (by obtain ⟨b, e⟩ := sr.2.1 k s hk' hs; exact ⟨b, e, e⟩), Or.inr ⟨?_, rfl⟩⟩
  cases c : shG mem a b d with
  | false => rfl
  | true => exact absurd ((shG_ok m12 e9).mp c) hno
theorem cs_good {a b d : Int32} {h : xh_H} (I : lc_I h) (ho : so_ok h a b d) : ∃ (f : Nat) (v : Int64) (h1 : xh_H), xe_x xM xC none f 48 xi_X9_share xmi_X9_share (0, lv_args 0 [.ref 0, .int a, .int b, .int d], [], h, 0, 0) = some (some (.long v), h1, 0, 0) ∧ h1.1 = h.1 ∧ lc_I h1 ∧ shC (xh_ul h1 71 0 v) a b d 0 := by
  have ho' := ho
  obtain ⟨⟨a1, a2⟩, b1, b2, d1, d2⟩ := ho
  have mb := a_flx (c := 0) (k := 9) (lo := 1) (hi := 12) I.1.1 I.2.1 rfl rfl (by decide)
  obtain ⟨ka, ea, -, ka2⟩ := a_nk (x := a) (m := 12) a1 (by omega)
  obtain ⟨kb, eb, kb1, -⟩ := a_nk (x := b) (m := 2) b1 b2
  obtain ⟨kd, ed, kd1, -⟩ := a_nk (x := d) (m := 1) d1 d2
  rw [ea, nI_toInt ka2] at a2
  obtain ⟨v, h1, ⟨f, hf⟩, k1, x, rfl⟩ := s9_run (d := 42) (k := ka) (w := kb) (z := kd) I.1 I.2.1 a2 kb1 kd1
  have I1 : lc_I h1 := lc_It I k1.1 (hk_n k1 I.2.1) (by rw [k1.2.1]; exact I.2.2.1) (Fs_z (lc_Iq I) (fz_run (mid := xi_X9_share) (by decide +kernel) ⟨f, hf⟩)) k1.2.2 rfl (xq_Z (hn := (show List.Nodup [0, 1, 2, 3] by decide)) ⟨f, hf⟩ (fun f => lp_share (f := f) I))
  obtain ⟨-, ⟨mem, m12, e9, e4⟩, ⟨sc, sc8, e8, e33⟩, ⟨td, td9, e10, e3⟩, -, -, -, -, -, si, -, pi⟩ := I.2.2.2
  have m1 := lc_m1 I e9 m12
  have sr := SI_r si e9 m12 e8 sc8
  have M := cv_m (d := nI td) I.1 m12 e33 sc8 sr.2.1
  have gG := (shG_ok m12 e9).mpr ho'
  rw [ea, eb, ed] at gG ⊢
  rw [e9, nI_toInt (by omega)] at a2
  have q := xq_Z (hn := (show List.Nodup [0, 1, 2, 3] by decide)) ⟨f, hf⟩ (fun f => sh9_q (f := f) (d := nI td) I.1 I.2.1 e9 m1 m12 e8 sc8 e10 si pi M (show ka < mem by omega) kb1 (by rw [← ed]; exact xlt_f d1) (by rw [← ed]; exact xle_t d2))
  refine ⟨f, x, h1, hf, k1.2.1, I1, mem, sc, nI td, fun k => xg 0 h.2.1 51 k, fun k => xg 0 h.2.1 44 k, m12, (hk_g (c := 39) (k := 4) k1 rfl rfl).trans e4, (hk_g (c := 39) (k := 33) k1 rfl rfl).trans e33, sc8, (hk_g (c := 39) (k := 3) k1 rfl rfl).trans e3, fun k _ => (show xg 0 h1.2.1 51 k = xg 0 h.2.1 51 k from hk_g (c := 51) (k := k) k1 rfl rfl), fun k hk' => (by have e52 : xg 0 h1.2.1 52 k = xg 0 h.2.1 52 k := hk_g (c := 52) (k := k) k1 rfl rfl; show (xg 0 h1.2.1 52 k).toInt ≤ 999; rw [e52]; exact sr.1 k hk'), fun k s hk' hs => (by obtain ⟨b, e⟩ := sr.2.1 k s hk' hs; exact ⟨b, e, (hk_g (c := 44) (k := 4096 * k + s) k1 rfl rfl).trans e⟩), Or.inl ⟨gG, rfl, ?_⟩⟩
  have e1 : (nI ka).toInt.toNat = ka := by rw [nI_toInt (by omega)]; rfl
  have e2 : (nI kb).toInt.toNat = kb := by rw [nI_toInt (by omega)]; rfl
  rw [gl_s, e1, e2]
  injection q.1 with q1
  injection q1
theorem lc_ul {h : xh_H} {v : Int64} (I : lc_I h) : lc_I (xh_ul h 71 0 v) := by
  refine ⟨a_inv_ul (s := (4, 1)) (lo := -9223372036854775808) (hi := 9223372036854775807) I.1 ((lc_Iq I).2.1 71 _ rfl) rfl (lr v).1 (lr v).2, I.2.1, I.2.2.1, ?_⟩
  obtain ⟨r0, r1, r2, r3, r4, r5, r6, r7, r8, r9, r10, r11⟩ := I.2.2.2
  have q := lc_Iq I
  refine ⟨r0, r1, r2, r3, r4, r5, r6, r7, r8, SI_s I.1 q (Fs_f (S := fN) (L := Lr 71) (fx_ul fx_0 rfl) (fun _ _ _ => rfl) (fun c k e => ?_)) rfl rfl (fun _ => rfl) (fun _ => rfl) (fun _ => rfl) r9, r10, PI_s I.1 I.2.1 (fun c k e _ => gl_o (fun w => ?_)) (fun _ _ _ => rfl) rfl (fun _ _ _ => rfl) r11⟩
  rotate_left
  · rcases sh64c q e with z | z <;> omega
  show Nat.beq c 71 = false
  rw [Bool.eq_false_iff]
  intro y
  have := Nat.eq_of_beq_eq_true y
  rcases sh64c q e with z | z <;> omega
variable {L i : Nat} {xs : Nat → Int32} {h : xh_H} {c s : Nat}
set_option maxRecDepth 100000 in
set_option maxHeartbeats 4000000 in
/-- share's arguments -/
theorem lo_11a (hL : L ≤ 3072) (hi6 : i + 6 ≤ L) (hk : xs i &&& 31 = 11) : xV (some (L, xs)) 535 50 xi_L_law xmi_L_law (23, lc_v i, [], h, c, s) (535, lc_v i, [.ref 71, .int (xs (i + 3)), .int (xs (i + 2)), .int (xs (i + 1)), .ref 0], h, c, s) := by
  refine ld_sw hL hi6 rfl rfl rfl rfl rfl rfl rfl rfl rfl rfl rfl ?_
  rw [hk]
  refine xV_step (o1 := (515, lc_v i, [], h, c, s)) rfl rfl rfl rfl ?_
  refine xV_step (o1 := (516, lc_v i, [.ref 0], h, c, s)) rfl rfl rfl rfl ?_
  refine xV_arg 1 1 rfl (by omega) hL rfl rfl rfl rfl rfl rfl rfl rfl rfl rfl ?_
  refine xV_arg 2 2 rfl (by omega) hL rfl rfl rfl rfl rfl rfl rfl rfl rfl rfl ?_
  refine xV_arg 3 3 rfl (by omega) hL rfl rfl rfl rfl rfl rfl rfl rfl rfl rfl ?_
  refine xV_step (o1 := (535, lc_v i, [.ref 71, .int (xs (i + 3)), .int (xs (i + 2)), .int (xs (i + 1)), .ref 0], h, c, s)) rfl rfl rfl rfl ?_
  exact xV_stop
/-- the law's locals, with what its share has told -/
def lc_5 (x : Int32) (i : Nat) : List (Nat × Value) := (5, .int x) :: lc_v i
theorem xV_arg5 {L : Nat} {xs : Nat → Int32} {stop d pc i : Nat} {x : Int32} {st : List Value} {h : xh_H} {c s : Nat} {o : xs_S} (j : Nat) (jj : Int) (hj : Int32.ofInt jj = nI j) (hi : i + j < L) (hL : L ≤ 3072) (b0 : Nat.beq pc stop = false) (b1 : Nat.beq (pc + 1) stop = false) (b3 : Nat.beq (pc + 3) stop = false) (b4 : Nat.beq (pc + 4) stop = false) (b5 : Nat.beq (pc + 5) stop = false) (r0 : xC xi_L_law pc = some (.aload_n 0, 1, 0, 0, 0, 0)) (r1 : xC xi_L_law (pc + 1) = some (.iload 4, 2, 0, 0, 0, 0)) (r3 : xC xi_L_law (pc + 3) = some (.iconst jj, 1, 0, 0, 0, 0)) (r4 : xC xi_L_law (pc + 4) = some (.iadd, 1, 0, 0, 0, 0)) (r5 : xC xi_L_law (pc + 5) = some (.iaload, 1, 0, 0, 0, 0)) (k : xV (some (L, xs)) stop d xi_L_law xmi_L_law (pc + 6, lc_5 x i, .int (xs (i + j)) :: st, h, c, s) o) : xV (some (L, xs)) stop d xi_L_law xmi_L_law (pc, lc_5 x i, st, h, c, s) o := by
  refine xV_step (o1 := (pc + 1, lc_5 x i, .float 0 :: st, h, c, s)) b0 r0 rfl rfl ?_
  refine xV_step (o1 := (pc + 3, lc_5 x i, .int (nI i) :: .float 0 :: st, h, c, s)) b1 r1 rfl rfl ?_
  refine xV_step (o1 := (pc + 4, lc_5 x i, .int (Int32.ofInt jj) :: .int (nI i) :: .float 0 :: st, h, c, s)) b3 r3 rfl rfl ?_
  refine xV_step (o1 := (pc + 5, lc_5 x i, .int (nI i + Int32.ofInt jj) :: .float 0 :: st, h, c, s)) b4 r4 rfl rfl ?_
  refine xV_step (o1 := (pc + 6, lc_5 x i, .int (xs (i + j)) :: st, h, c, s)) b5 r5 rfl ?_ k
  rw [hj, nI_add]
  exact lc_ia hi hL
set_option maxRecDepth 100000 in
set_option maxHeartbeats 4000000 in
/-- the reference's share -/
theorem lo_11b {x : Int32} (hL : L ≤ 3072) (hi6 : i + 6 ≤ L) (I : lc_I h) (S : shC h (xs (i + 1)) (xs (i + 2)) (xs (i + 3)) x) : ∃ (y : Int64) (h2 : xh_H), xV (some (L, xs)) 562 50 xi_L_law xmi_L_law (540, lc_5 x i, [], h, c, s) (562, lc_5 x i, [.long y], h2, c, s) ∧ lc_I h2 ∧ xg 0 h2.2.1 39 0 = x ∧ (x = 0 ∨ x = 1) ∧ (x = 0 → xg 0 h2.2.2.1 71 0 = y) := by
  obtain ⟨y, h2, r2, I2⟩ := lc_2 (D := 49) (m := xmi_X10_share) (A := [.ref 39, .int (xs (i + 1)), .int (xs (i + 2)), .int (xs (i + 3))]) I as_m_X10_share rfl (by decide) ⟨a_av (by decide) I.2.1, a_an, a_an, a_an, trivial⟩ rfl rfl rfl (by decide +kernel) rfl (by decide +kernel)
  obtain ⟨mem, sc, td, FR, RW, m12, e4, e33, sc8, e3, hF, hT, hR, S⟩ := S
  obtain ⟨q1, q2, q3⟩ := xq_Z (hn := (show List.Nodup [0, 1, 2, 3] by decide)) r2 (fun f => sh10_q (f := f) (x := xs (i + 1)) (w := xs (i + 2)) (z := xs (i + 3)) m12 e4 e33 sc8 e3 hF hT hR (lc_Iq I))
  refine ⟨y, h2, ?_, I2, ?_, ?_, ?_⟩
  · refine xV_step (o1 := (541, lc_5 x i, [.ref 39], h, c, s)) rfl rfl rfl rfl ?_
    refine xV_arg5 1 1 rfl (by omega) hL rfl rfl rfl rfl rfl rfl rfl rfl rfl rfl ?_
    refine xV_arg5 2 2 rfl (by omega) hL rfl rfl rfl rfl rfl rfl rfl rfl rfl rfl ?_
    refine xV_arg5 3 3 rfl (by omega) hL rfl rfl rfl rfl rfl rfl rfl rfl rfl rfl ?_
    refine xV_call (d := 49) rfl rfl rfl rfl (xa_c_ok (d := 49) (pc := 559) (lv := lc_5 x i) (nL := 8) (lc_Iq I) rfl).1 r2 ?_
    exact xV_stop
  · rcases S with ⟨g, rfl, -⟩ | ⟨g, rfl⟩
    · exact (q1 g).1
    · exact q2 g
  · rcases S with ⟨g, rfl, -⟩ | ⟨g, rfl⟩
    · exact Or.inl rfl
    · exact Or.inr rfl
  · intro x0
    rcases S with ⟨g, -, e⟩ | ⟨g, rfl⟩
    · rw [q3, e]
      have := (q1 g).2
      injection this with z
      injection z with z
      exact z.symm
    · exact absurd x0 (by decide)
theorem thr_run {d : Nat} {h : xh_H} (hq : a_rq a_tb h) : xt_P d xi_X10_thrown xmi_X10_thrown 0 [(0, .ref 39)] [] h (fun v h' => h = h' ∧ v = some (.int (xg 0 h.2.1 39 0))) := by
  refine xa_tn 4 [] [] [.int (xg 0 h.2.1 39 0)] h [] 12 hq rfl trivial (fun _ => ?_)
  exact xp_ret rfl rfl rfl ⟨rfl, rfl⟩
set_option maxRecDepth 100000 in
set_option maxHeartbeats 4000000 in
/-- both are compared -/
theorem lo_11d {x : Int32} {y : Int64} (I : lc_I h) (t0 : xg 0 h.2.1 39 0 = x) (x01 : x = 0 ∨ x = 1) (ey : x = 0 → xg 0 h.2.2.1 71 0 = y) : xV (some (L, xs)) 1026 50 xi_L_law xmi_L_law (564, (6, .long y) :: lc_5 x i, [], h, c, s) (1026, (6, .long y) :: lc_5 x i, [], h, c, s) := by
  have hq := lc_Iq I
  refine xV_step (o1 := (565, (6, .long y) :: lc_5 x i, [.ref 39], h, c, s)) rfl rfl rfl rfl ?_
  obtain ⟨v, h', r, rfl, rfl⟩ := thr_run (d := 49) hq
  refine xV_call (d := 49) rfl rfl rfl rfl (xa_c_ok (d := 49) (pc := 565) (lv := (6, .long y) :: lc_5 x i) (nL := 8) hq rfl).1 r ?_
  rw [t0]
  refine xV_step (o1 := (570, (6, .long y) :: lc_5 x i, [.int x, .int x], h, c, s)) rfl rfl rfl rfl ?_
  refine xV_ic true rfl rfl (xeq_t rfl) ?_
  refine xV_step (o1 := (577, (6, .long y) :: lc_5 x i, [.int x], h, c, s)) rfl rfl rfl rfl ?_
  rcases x01 with rfl | rfl
  · refine xV_if false rfl rfl rfl ?_
    refine xV_step (o1 := (581, (6, .long y) :: lc_5 0 i, [.ref 71], h, c, s)) rfl rfl rfl rfl ?_
    refine xV_step (o1 := (582, (6, .long y) :: lc_5 0 i, [.int 0, .ref 71], h, c, s)) rfl rfl rfl rfl ?_
    have h71 : h.1[71]? = some (4, 1) := hq.2.1 71 _ rfl
    refine xV_step (o1 := (583, (6, .long y) :: lc_5 0 i, [.long y], h, c, s)) rfl rfl rfl ?_ ?_
    · have e : xe_in 0 1 = true := by decide
      have e2 : (0 : Int32).toNatClampNeg = 0 := by decide
      simp [xe_2, xe_1, xp_ir, h71, e, e2, ey rfl]
    refine xV_step (o1 := (585, (6, .long y) :: lc_5 0 i, [.long y, .long y], h, c, s)) rfl rfl rfl rfl ?_
    refine xV_step (o1 := (586, (6, .long y) :: lc_5 0 i, [.int (lg_cmp y y)], h, c, s)) rfl rfl rfl rfl ?_
    refine xV_if true rfl rfl (show xe_c .eq (lg_cmp _ _) 0 = true by rw [lg_slf]; rfl) ?_
    refine xV_step (o1 := (1026, (6, .long y) :: lc_5 0 i, [], h, c, s)) rfl rfl rfl rfl ?_
    exact xV_stop
  · refine xV_if true rfl rfl rfl ?_
    refine xV_step (o1 := (1026, (6, .long y) :: lc_5 1 i, [], h, c, s)) rfl rfl rfl rfl ?_
    exact xV_stop
end XSB
