section XRG
variable {T : Nat → Nat} {n mem nn : Nat} {NW : Nat → Nat}
theorem rtk_ui {h : xh_H} {p c k : Nat} {x : Int32} (rt : rtk h T n p) (e : gS c k = false) : rtk (xh_ui h c k x) T n p := by
  have q : ∀ j, 7 ≤ j → j ≤ 12 → xg 0 (xh_ui h c k x).2.1 39 j = xg 0 h.2.1 39 j := fun j j1 j2 => by
    rw [gx_i]
    rintro ⟨rfl, rfl⟩
    unfold gS at e
    rw [Nat.ble_eq.mpr j1, Nat.ble_eq.mpr j2] at e
    cases e
  obtain ⟨r1, r2, r3, r4, r5, r6⟩ := rt
  exact ⟨by rw [q 8 (by decide) (by decide)]; exact r1, by rw [q 9 (by decide) (by decide)]; exact r2, fun z => ⟨by rw [q 12 (by decide) (by decide)]; exact (r3 z).1, (r3 z).2⟩, fun z => by rw [q 10 (by decide) (by decide)]; exact r4 z, fun z => by rw [q 11 (by decide) (by decide)]; exact r5 z, fun z => by rw [q 7 (by decide) (by decide)]; exact r6 z⟩
theorem rtk_f {S L : Nat → Nat → Bool} {h h' : xh_H} {p : Nat} (rt : rtk h T n p) (g : fx S L h h') (e : ∀ j, 7 ≤ j → j ≤ 12 → S 39 j = false) (e2 : L 39 15 = false) : rtk h' T n p := by
  have q : ∀ j, 7 ≤ j → j ≤ 12 → xg 0 h'.2.1 39 j = xg 0 h.2.1 39 j := fun j j1 j2 => fx_i g (e j j1 j2)
  obtain ⟨r1, r2, r3, r4, r5, r6⟩ := rt
  exact ⟨by rw [q 8 (by decide) (by decide)]; exact r1, by rw [q 9 (by decide) (by decide)]; exact r2, fun z => ⟨by rw [q 12 (by decide) (by decide)]; exact (r3 z).1, by rw [fx_l g e2]; exact (r3 z).2⟩, fun z => by rw [q 10 (by decide) (by decide)]; exact r4 z, fun z => by rw [q 11 (by decide) (by decide)]; exact r5 z, fun z => by rw [q 7 (by decide) (by decide)]; exact r6 z⟩
theorem nms_f {S L : Nat → Nat → Bool} {h h' : xh_H} (nm : nms h nn NW) (g : fx S L h h') (e1 : S 39 26 = false) (e2 : ∀ k, L 50 k = false) : nms h' nn NW := ⟨by rw [fx_i g e1]; exact nm.1, nm.2.1, fun k hk' => ⟨(nm.2.2 k hk').1, by rw [fx_l g (e2 k)]; exact (nm.2.2 k hk').2⟩⟩
/-- what a step of the reference's reader leaves -/
def ou_Q (h : xh_H) (T : Nat → Nat) (n mem nn : Nat) (NW : Nat → Nat) (r : aRs) (v : Option Value) (h' : xh_H) : Prop := fx rS gL h h' ∧ (∀ aw p' o' fs', r = .inl (aw, p', o', fs') → v = some (.int 1) ∧ rr h' T n mem nn NW p' o' fs' ∧ xg 0 h'.2.1 39 29 = nI aw) ∧ ∀ k pl, r = .inr (k, pl) → v = some (.int 0) ∧ xg 0 h'.2.1 39 13 = nI k ∧ xg 0 h'.2.1 39 14 = nI pl
theorem ou_l {h h' : xh_H} {r : aRs} {v : Option Value} {aw p' o' : Nat} {fs' : List Nat} (er : r = .inl (aw, p', o', fs')) (g : fx rS gL h h') (hv : v = some (.int 1)) (hr : rr h' T n mem nn NW p' o' fs') (ha : xg 0 h'.2.1 39 29 = nI aw) : ou_Q h T n mem nn NW r v h' := by
  subst er
  refine ⟨g, fun _ _ _ _ e => ?_, fun _ _ e => by cases e⟩
  cases e
  exact ⟨hv, hr, ha⟩
theorem ou_r {h h' : xh_H} {r : aRs} {v : Option Value} {k pl : Nat} (er : r = .inr (k, pl)) (g : fx rS gL h h') (hv : v = some (.int 0)) (h1 : xg 0 h'.2.1 39 13 = nI k) (h2 : xg 0 h'.2.1 39 14 = nI pl) : ou_Q h T n mem nn NW r v h' := by
  subst er
  refine ⟨g, fun _ _ _ _ e => (by cases e), fun _ _ e => ?_⟩
  cases e
  exact ⟨hv, h1, h2⟩
theorem o47 {t k : Nat} (h : k < t) : oS t 47 k = false := by
  unfold oS
  rw [show Nat.beq k t = false from by rw [Bool.eq_false_iff]; intro z; have := Nat.eq_of_beq_eq_true z; omega]
  rfl
theorem nIm1 {k : Nat} (h : k < 2 ^ 31) : nI k ≠ Int32.ofInt (-1) := by
  intro e
  have e2 := congrArg Int32.toInt e
  rw [nI_toInt h] at e2
  have e3 : (Int32.ofInt (-1)).toInt = -1 := rfl
  omega
theorem tke_le {p : Nat} (h : tkk T n p ≠ 0) : tke T n p ≤ n := (tke_gt h).2.1
set_option maxRecDepth 100000 in
set_option maxHeartbeats 4000000 in
theorem bls_q {f p o a : Nat} {fs : List Nat} {h : xh_H} (rr0 : rr h T n mem nn NW p o fs) (hq : a_rq a_tb h) : xq f xi_X10_beginList xmi_X10_beginList 0 [(0, .ref 39), (1, .int (nI a))] [] h (ou_Q h T n mem nn NW (bls T n p o fs)) := by
  have hT : ∀ k, k < n → T k < 256 := fun k hk' => (rr0.1.2.2 k hk').1
  have rt := rr0.2.1
  have rb := (rkk_k (T := T) (n := n) (p := p)).1
  have kb := tkk_lt (T := T) (n := n) (p := p) hT
  have o120 := rr0.2.2.2.2.2.2.1
  have f1 := rr0.2.2.2.2.2.2.2.2.1
  have n16 := rr0.2.2.2.2.1.2.1
  have f13 := rr0.2.2.2.2.2.2.2.2.2.1
  have n6 := rr0.1.2.1
  refine xq_n 1 [0, 1] [(0, .ref 39), (1, .int (nI a))] [.ref 39] h [] 3 hq rfl trivial (fun hq => ?_)
  refine xq_run hq rfl rfl (rw4_q hT (rt) hq) ?_
  rintro v1 h_v1 ⟨rfl, rfl⟩
  cases b2 : (ky T n p 4) with
  | true =>
    have db2 := of_decide_eq_true b2
    refine xq_n 14 [0, 1] [(0, .ref 39), (1, .int (nI a))] [.ref 39] h [true] 4 hq rfl ⟨rfl, trivial⟩ (fun hq => ?_)
    have nz3 : tkk T n p ≠ 0 := by omega
    have le3 := tke_le nz3
    refine xq_run hq rfl rfl (go_q hq (rr0.1) (rt.2.2.2.2.2 (by omega)) le3) ?_
    rintro v3 h3 ⟨rfl, g3, t3⟩
    have hq := fx_q g3 hq
    have rb3 := (rkk_k (T := T) (n := n) (p := tke T n p)).1
    have kb3 := tkk_lt (T := T) (n := n) (p := tke T n p) hT
    refine xq_n 20 [0, 1] [(0, .ref 39), (1, .int (nI a))] [.int 91, .ref 39] h3 [] 4 hq rfl trivial (fun hq => ?_)
    refine xq_run hq rfl rfl (rsg_q (c := 91) (by decide) (by decide) hT (t3) hq) ?_
    rintro v4 h_v4 ⟨rfl, rfl⟩
    cases b5 : (decide (tkk T n (tke T n p) = 91)) with
    | true =>
      have db5 := of_decide_eq_true b5
      cases c6 : xe_c .ne (nI (fs.length - 1)) 12 with
      | true =>
        have z6 : (fs.length - 1) ≠ 12 := nq_net (a := (fs.length - 1)) (b := 12) (by omega) (by omega) c6
        refine xq_n 59 [0, 1] [(0, .ref 39), (1, .int (nI a))] [.int (nI a), .ref 39] (xh_ui h3 39 28 ((xg 0 h3.2.1 39 28) + (Int32.ofInt 1))) [true, true] 15 hq rfl ⟨rfl, (show xe_c .ne (xg 0 h3.2.1 39 28) 12 = true by rw [show (xg 0 h3.2.1 39 28) = (nI (fs.length - 1)) from (fx_i g3 rfl).trans (rr0.2.2.2.2.2.2.2.1)]; exact c6), trivial⟩ (fun _ => ?_)
        rw [show (xg 0 h3.2.1 39 28) = (nI (fs.length - 1)) from (fx_i g3 rfl).trans (rr0.2.2.2.2.2.2.2.1)]
        rw [show ((nI (fs.length - 1)) + (Int32.ofInt 1)) = nI (fs.length - 1 + 1) from nI_1 _]
        rw [show (nI (fs.length - 1 + 1)) = nI fs.length from (by rw [show fs.length - 1 + 1 = fs.length by omega])]
        have hq : a_rq a_tb (xh_ui h3 39 28 (nI fs.length)) := a_rq_ui hq
        have nz7 : tkk T n (tke T n p) ≠ 0 := by omega
        refine xq_run hq rfl rfl (opl_q (t := fs.length) (by omega) (tke_le nz7) hq (rtp_f (S := rS) (L := gL) rr0.1 (fx_ui (fx_t (fx_0) (fx_w g3 (fun _ _ => gS_r) (fun _ _ z => z))) rfl) rfl (fun _ => rfl)) ((gx_k (by decide)).trans (t3.2.2.2.2.2 (by omega))) (gx_s)) ?_
        rintro v7 h7 ⟨rfl, g7, t7, y7, a7⟩
        have hq := fx_q g7 hq
        refine xq_n 63 [] [] [.int (Int32.ofInt 1)] h7 [] 3 hq rfl trivial (fun hq => ?_)
        have er : bls T n p o fs = .inl (1, tke T n (tke T n p), o, 2 :: fs) := by
          unfold bls
          repeat (first | rw [if_pos (by omega)] | rw [if_neg (by omega)] | rw [if_pos b2] | rw [if_neg (by rw [b2]; decide)] | rw [if_pos b5] | rw [if_neg (by rw [b5]; decide)])
          try rfl
        exact xq_ret rfl rfl rfl (ou_l er (fx_t (fx_ui (fx_t (fx_0) (fx_w g3 (fun _ _ => gS_r) (fun _ _ z => z))) rfl) (fx_w g7 (fun _ _ => oS_r) (fun _ _ z => z))) rfl ⟨rtp_f (S := rS) (L := gL) rr0.1 (fx_t (fx_ui (fx_t (fx_0) (fx_w g3 (fun _ _ => gS_r) (fun _ _ z => z))) rfl) (fx_w g7 (fun _ _ => oS_r) (fun _ _ z => z))) rfl (fun _ => rfl), t7, (fx_i g7 rfl).trans ((gx_k (by decide)).trans ((fx_i g3 rfl).trans (rr0.2.2.1))), rr0.2.2.2.1, nms_f (S := rS) (L := gL) rr0.2.2.2.2.1 (fx_t (fx_ui (fx_t (fx_0) (fx_w g3 (fun _ _ => gS_r) (fun _ _ z => z))) rfl) (fx_w g7 (fun _ _ => oS_r) (fun _ _ z => z))) rfl (fun _ => rfl), (fx_i g7 rfl).trans ((gx_k (by decide)).trans ((fx_i g3 rfl).trans (rr0.2.2.2.2.2.1))), by omega, ((fx_i g7 rfl).trans (gx_s)), by simp only [List.length_cons]; omega, by simp only [List.length_cons]; omega, ⟨y7, by decide, frs_c (fun k hk' => (fx_i g7 (o47 hk')).trans ((gx_o (by decide)).trans (fx_i g3 rfl))) rr0.2.2.2.2.2.2.2.2.2.2.1⟩, (fx_i g7 rfl).trans ((gx_k (by decide)).trans ((fx_i g3 rfl).trans (rr0.2.2.2.2.2.2.2.2.2.2.2)))⟩ (a7))
      | false =>
        have z6 : (fs.length - 1) = 12 := nq_nef (a := (fs.length - 1)) (b := 12) (by omega) (by omega) c6
        refine xq_n 43 [0, 1] [(0, .ref 39), (1, .int (nI a))] [.int (Int32.ofInt 4), .ref 39] h3 [true, false] 9 hq rfl ⟨rfl, (show xe_c .ne (xg 0 h3.2.1 39 28) 12 = false by rw [show (xg 0 h3.2.1 39 28) = (nI (fs.length - 1)) from (fx_i g3 rfl).trans (rr0.2.2.2.2.2.2.2.1)]; exact c6), trivial⟩ (fun hq => ?_)
        refine xq_run hq rfl rfl (bad_q (k := 4) hT (t3) hq) ?_
        rintro v8 h8 ⟨rfl, g8, f8, l8⟩
        have hq := fx_q g8 hq
        rw [if_neg (show ¬ rkk T n (tke T n p) = 1 from fun e => by have e1 := rk1.mp e; omega)] at f8
        have er : bls T n p o fs = .inr (4, tks T n (tke T n p)) := by
          unfold bls
          repeat (first | rw [if_pos (by omega)] | rw [if_neg (by omega)] | rw [if_pos b2] | rw [if_neg (by rw [b2]; decide)] | rw [if_pos b5] | rw [if_neg (by rw [b5]; decide)])
          try rfl
        exact xq_ret rfl rfl rfl (ou_r er (fx_t (fx_t (fx_0) (fx_w g3 (fun _ _ => gS_r) (fun _ _ z => z))) (fx_w g8 (fun _ _ => bS_r) (fun _ _ _ => rfl))) rfl (f8) (l8))
    | false =>
      have db5 := of_decide_eq_false b5
      refine xq_n 28 [0, 1] [(0, .ref 39), (1, .int (nI a))] [.int (Int32.ofInt 1), .ref 39] h3 [false] 5 hq rfl ⟨rfl, trivial⟩ (fun hq => ?_)
      refine xq_run hq rfl rfl (bad_q (k := 1) hT (t3) hq) ?_
      rintro v9 h9 ⟨rfl, g9, f9, l9⟩
      have hq := fx_q g9 hq
      rw [show (if rkk T n (tke T n p) = 1 then 1 else 1) = 1 by split <;> rfl] at f9
      have er : bls T n p o fs = .inr (1, tks T n (tke T n p)) := by
        unfold bls
        repeat (first | rw [if_pos (by omega)] | rw [if_neg (by omega)] | rw [if_pos b2] | rw [if_neg (by rw [b2]; decide)] | rw [if_pos b5] | rw [if_neg (by rw [b5]; decide)])
        try rfl
      exact xq_ret rfl rfl rfl (ou_r er (fx_t (fx_t (fx_0) (fx_w g3 (fun _ _ => gS_r) (fun _ _ z => z))) (fx_w g9 (fun _ _ => bS_r) (fun _ _ _ => rfl))) rfl (f9) (l9))
  | false =>
    have db2 := of_decide_eq_false b2
    refine xq_n 9 [0, 1] [(0, .ref 39), (1, .int (nI a))] [.int (Int32.ofInt 1), .ref 39] h [false] 5 hq rfl ⟨rfl, trivial⟩ (fun hq => ?_)
    refine xq_run hq rfl rfl (bad_q (k := 1) hT (rt) hq) ?_
    rintro v10 h10 ⟨rfl, g10, f10, l10⟩
    have hq := fx_q g10 hq
    rw [show (if rkk T n p = 1 then 1 else 1) = 1 by split <;> rfl] at f10
    have er : bls T n p o fs = .inr (1, tks T n p) := by
      unfold bls
      repeat (first | rw [if_pos (by omega)] | rw [if_neg (by omega)] | rw [if_pos b2] | rw [if_neg (by rw [b2]; decide)])
      try rfl
    exact xq_ret rfl rfl rfl (ou_r er (fx_t (fx_0) (fx_w g10 (fun _ _ => bS_r) (fun _ _ _ => rfl))) rfl (f10) (l10))
theorem ll_v {w : Nat} (h1 : 1 ≤ w) (h2 : w < 282429536481) (h3 : w ≤ 26) : (Int64.ofNat w).toInt32 - Int32.ofInt 1 = nI (w - 1) := by
  have e : (Int64.ofNat w).toInt32 = nI w := by
    apply Int32.toInt_inj.mp
    rw [nI_toInt (by omega), Int64.toInt_toInt32, Int64.toInt_ofNat_of_lt (by omega)]
    rw [Int.bmod_def]
    omega
  rw [e]
  exact nI_sub (b := 1) h1
theorem lone_w {p : Nat} (h : lone T n p = true) : tkw T n p = T (tks T n p) - 96 ∧ 97 ≤ T (tks T n p) ∧ T (tks T n p) ≤ 122 := by
  obtain ⟨h1, h2⟩ := of_decide_eq_true h
  have h3 := (tk2 h1).2.2 (tks T n p) (Nat.le_refl _) (by omega)
  refine ⟨?_, h3⟩
  unfold tkw
  rw [h2]
  show 27 * 0 + (T (tks T n p + 0) - 96) = _
  rw [Nat.mul_zero, Nat.zero_add, Nat.add_zero]
set_option maxRecDepth 100000 in
set_option maxHeartbeats 4000000 in
theorem rmb_q {f m : Nat} {h : xh_H} (m6 : m < 1000) (mm : mem ≤ 12) (e4 : xg 0 h.2.1 39 4 = nI mem) (hq : a_rq a_tb h) : xq f xi_X10_isMember xmi_X10_isMember 0 [(0, .ref 39), (1, .int (nI m))] [] h (fun v h' => h = h' ∧ v = some (.int (bl (decide (m < mem))))) := by
  cases c1 : xe_c .lt (nI m) 0 with
  | true =>
    have z1 : m < 0 := nq_ltt (a := m) (b := 0) (by omega) (by omega) c1
    omega
  | false =>
    have z1 : m ≥ 0 := nq_ltf (a := m) (b := 0) (by omega) (by omega) c1
    cases c2 : xe_c .ge (nI m) (nI mem) with
    | true =>
      have z2 : m ≥ mem := nq_get (a := m) (b := mem) (by omega) (by omega) c2
      refine xq_n 17 [] [] [.int (Int32.ofInt 0)] h [false, true] 9 hq rfl ⟨c1, (show xe_c .ge (nI m) (xg 0 h.2.1 39 4) = true by rw [show (xg 0 h.2.1 39 4) = (nI mem) from e4]; exact c2), trivial⟩ (fun hq => ?_)
      exact xq_ret rfl rfl rfl ⟨rfl, by rw [show decide (m < mem) = false from decide_eq_false (by omega)]; rfl⟩
    | false =>
      have z2 : m < mem := nq_gef (a := m) (b := mem) (by omega) (by omega) c2
      refine xq_n 17 [] [] [.int (Int32.ofInt 1)] h [false, false] 10 hq rfl ⟨c1, (show xe_c .ge (nI m) (xg 0 h.2.1 39 4) = false by rw [show (xg 0 h.2.1 39 4) = (nI mem) from e4]; exact c2), trivial⟩ (fun hq => ?_)
      exact xq_ret rfl rfl rfl ⟨rfl, by rw [show decide (m < mem) = true from decide_eq_true (by omega)]; rfl⟩
set_option maxRecDepth 100000 in
set_option maxHeartbeats 4000000 in
theorem bo_lp {p o : Nat} {fs : List Nat} {h0 : xh_H} : ∀ (f : Nat) (x1 x2 x3 x4 : Int32) (h : xh_H), fx rS gL h0 h → rr h T n mem nn NW p o fs → tkk T n p ≠ 0 → a_rq a_tb h → xq f xi_X10_beginOne xmi_X10_beginOne 235 [(0, .ref 39), (1, .int x1), (2, .int x2), (3, .int x3), (4, .int x4)] [] h (ou_Q h0 T n mem nn NW (.inl (0, tke T n p, o, fs))) := by
  intro f
  induction f with
  | zero => intros; exact xq_0
  | succ f ih =>
    intro x1 x2 x3 x4 h g0 rr0 nz hq
    have hT : ∀ k, k < n → T k < 256 := fun k hk' => (rr0.1.2.2 k hk').1
    have rt := rr0.2.1
    have rb := (rkk_k (T := T) (n := n) (p := p)).1
    have kb := tkk_lt (T := T) (n := n) (p := p) hT
    have o120 := rr0.2.2.2.2.2.2.1
    have f1 := rr0.2.2.2.2.2.2.2.2.1
    have n16 := rr0.2.2.2.2.1.2.1
    have f13 := rr0.2.2.2.2.2.2.2.2.2.1
    have n6 := rr0.1.2.1
    cases c1 : xe_c .ge x4 4096 with
    | true =>
      refine xq_m 292 [0, 1, 2, 3, 4] [(0, .ref 39), (1, .int x1), (2, .int x2), (3, .int x3), (4, .int x4)] [.ref 39] h [true] 6 hq rfl ⟨c1, trivial⟩ (fun hq => ?_)
      have nz2 : tkk T n p ≠ 0 := by omega
      have le2 := tke_le nz2
      refine xq_run hq rfl rfl (go_q hq (rr0.1) (rt.2.2.2.2.2 (by omega)) le2) ?_
      rintro v2 h2 ⟨rfl, g2, t2⟩
      have hq := fx_q g2 hq
      have rb2 := (rkk_k (T := T) (n := n) (p := tke T n p)).1
      have kb2 := tkk_lt (T := T) (n := n) (p := tke T n p) hT
      refine xq_n 301 [] [] [.int (Int32.ofInt 1)] (xh_ui h2 39 29 (Int32.ofInt 0)) [] 6 hq rfl trivial (fun _ => ?_)
      have hq : a_rq a_tb (xh_ui h2 39 29 (Int32.ofInt 0)) := a_rq_ui hq
      exact xq_ret rfl rfl rfl (ou_l rfl (fx_ui (fx_t (g0) (fx_w g2 (fun _ _ => gS_r) (fun _ _ z => z))) rfl) rfl ⟨rtp_f (S := rS) (L := gL) rr0.1 (fx_ui (fx_t (fx_0) (fx_w g2 (fun _ _ => gS_r) (fun _ _ z => z))) rfl) rfl (fun _ => rfl), rtk_ui (t2) rfl, (gx_k (by decide)).trans ((fx_i g2 rfl).trans (rr0.2.2.1)), rr0.2.2.2.1, nms_f (S := rS) (L := gL) rr0.2.2.2.2.1 (fx_ui (fx_t (fx_0) (fx_w g2 (fun _ _ => gS_r) (fun _ _ z => z))) rfl) rfl (fun _ => rfl), (gx_k (by decide)).trans ((fx_i g2 rfl).trans (rr0.2.2.2.2.2.1)), rr0.2.2.2.2.2.2.1, (gx_k (by decide)).trans ((fx_i g2 rfl).trans (rr0.2.2.2.2.2.2.2.1)), rr0.2.2.2.2.2.2.2.2.1, rr0.2.2.2.2.2.2.2.2.2.1, frs_c (fun k hk' => (gx_o (by decide)).trans (fx_i g2 rfl)) rr0.2.2.2.2.2.2.2.2.2.2.1, (gx_k (by decide)).trans ((fx_i g2 rfl).trans (rr0.2.2.2.2.2.2.2.2.2.2.2))⟩ (gx_s))
    | false =>
      cases c3 : xe_c .eq x1 0 with
      | true =>
        refine xq_m 235 [0, 1, 2, 3, 4] [(0, .ref 39), (1, .int x1), (2, .int x2), (3, .int x3), (4, .int (x4 + Int32.ofInt 1))] [] (xh_ui h 45 x4.toNatClampNeg (vp_nar .boolean (xg 0 h.2.1 43 (((4096 * x3) + x4).toNatClampNeg)))) [false, true] 21 hq rfl ⟨c1, c3, trivial⟩ (fun _ => ?_)
        have hq : a_rq a_tb (xh_ui h 45 x4.toNatClampNeg (vp_nar .boolean (xg 0 h.2.1 43 (((4096 * x3) + x4).toNatClampNeg)))) := a_rq_ui hq
        exact ih _ _ _ _ _ (fx_ui (g0) rfl) ⟨rtp_f (S := rS) (L := gL) rr0.1 (fx_ui (fx_0) rfl) rfl (fun _ => rfl), rtk_ui (rt) rfl, (gx_o (by decide)).trans (rr0.2.2.1), rr0.2.2.2.1, nms_f (S := rS) (L := gL) rr0.2.2.2.2.1 (fx_ui (fx_0) rfl) rfl (fun _ => rfl), (gx_o (by decide)).trans (rr0.2.2.2.2.2.1), rr0.2.2.2.2.2.2.1, (gx_o (by decide)).trans (rr0.2.2.2.2.2.2.2.1), rr0.2.2.2.2.2.2.2.2.1, rr0.2.2.2.2.2.2.2.2.2.1, frs_c (fun k hk' => gx_o (by decide)) rr0.2.2.2.2.2.2.2.2.2.2.1, (gx_o (by decide)).trans (rr0.2.2.2.2.2.2.2.2.2.2.2)⟩ nz hq
      | false =>
        cases c4 : xe_c .ne ((x4 >>> (x2 &&& 31)) &&& (Int32.ofInt 1)) (Int32.ofInt 1) with
        | true =>
          refine xq_m 235 [0, 1, 2, 3, 4] [(0, .ref 39), (1, .int x1), (2, .int x2), (3, .int x3), (4, .int (x4 + Int32.ofInt 1))] [] (xh_ui h 45 x4.toNatClampNeg (vp_nar .boolean (Int32.ofInt 0))) [false, false, true] 22 hq rfl ⟨c1, c3, c4, trivial⟩ (fun _ => ?_)
          have hq : a_rq a_tb (xh_ui h 45 x4.toNatClampNeg (vp_nar .boolean (Int32.ofInt 0))) := a_rq_ui hq
          exact ih _ _ _ _ _ (fx_ui (g0) rfl) ⟨rtp_f (S := rS) (L := gL) rr0.1 (fx_ui (fx_0) rfl) rfl (fun _ => rfl), rtk_ui (rt) rfl, (gx_o (by decide)).trans (rr0.2.2.1), rr0.2.2.2.1, nms_f (S := rS) (L := gL) rr0.2.2.2.2.1 (fx_ui (fx_0) rfl) rfl (fun _ => rfl), (gx_o (by decide)).trans (rr0.2.2.2.2.2.1), rr0.2.2.2.2.2.2.1, (gx_o (by decide)).trans (rr0.2.2.2.2.2.2.2.1), rr0.2.2.2.2.2.2.2.2.1, rr0.2.2.2.2.2.2.2.2.2.1, frs_c (fun k hk' => gx_o (by decide)) rr0.2.2.2.2.2.2.2.2.2.2.1, (gx_o (by decide)).trans (rr0.2.2.2.2.2.2.2.2.2.2.2)⟩ nz hq
        | false =>
          refine xq_m 235 [0, 1, 2, 3, 4] [(0, .ref 39), (1, .int x1), (2, .int x2), (3, .int x3), (4, .int (x4 + Int32.ofInt 1))] [] (xh_ui h 45 x4.toNatClampNeg (vp_nar .boolean (Int32.ofInt 1))) [false, false, false] 22 hq rfl ⟨c1, c3, c4, trivial⟩ (fun _ => ?_)
          have hq : a_rq a_tb (xh_ui h 45 x4.toNatClampNeg (vp_nar .boolean (Int32.ofInt 1))) := a_rq_ui hq
          exact ih _ _ _ _ _ (fx_ui (g0) rfl) ⟨rtp_f (S := rS) (L := gL) rr0.1 (fx_ui (fx_0) rfl) rfl (fun _ => rfl), rtk_ui (rt) rfl, (gx_o (by decide)).trans (rr0.2.2.1), rr0.2.2.2.1, nms_f (S := rS) (L := gL) rr0.2.2.2.2.1 (fx_ui (fx_0) rfl) rfl (fun _ => rfl), (gx_o (by decide)).trans (rr0.2.2.2.2.2.1), rr0.2.2.2.2.2.2.1, (gx_o (by decide)).trans (rr0.2.2.2.2.2.2.2.1), rr0.2.2.2.2.2.2.2.2.1, rr0.2.2.2.2.2.2.2.2.2.1, frs_c (fun k hk' => gx_o (by decide)) rr0.2.2.2.2.2.2.2.2.2.2.1, (gx_o (by decide)).trans (rr0.2.2.2.2.2.2.2.2.2.2.2)⟩ nz hq
set_option maxRecDepth 100000 in
set_option maxHeartbeats 4000000 in
theorem bo_q {f p o : Nat} {fs : List Nat} {h : xh_H} (rr0 : rr h T n mem nn NW p o fs) (hq : a_rq a_tb h) : xq f xi_X10_beginOne xmi_X10_beginOne 0 [(0, .ref 39)] [] h (ou_Q h T n mem nn NW (bo T n mem nn NW p o fs)) := by
  have hT : ∀ k, k < n → T k < 256 := fun k hk' => (rr0.1.2.2 k hk').1
  have rt := rr0.2.1
  have rb := (rkk_k (T := T) (n := n) (p := p)).1
  have kb := tkk_lt (T := T) (n := n) (p := p) hT
  have o120 := rr0.2.2.2.2.2.2.1
  have f1 := rr0.2.2.2.2.2.2.2.2.1
  have n16 := rr0.2.2.2.2.1.2.1
  have f13 := rr0.2.2.2.2.2.2.2.2.2.1
  have n6 := rr0.1.2.1
  have t9 : tkn T n p ≤ 999 := vf_999
  have mm := rr0.2.2.2.1
  cases c1 : xe_c .ne (nI (rkk T n p)) (Int32.ofInt 2) with
  | true =>
    have z1 : (rkk T n p) ≠ 2 := nq_net (a := (rkk T n p)) (b := 2) (by omega) (by omega) c1
    have yc1 := mt (rk2 (T := T) (n := n) (p := p)).mpr z1
    cases c2 : xe_c .eq (nI (rkk T n p)) (Int32.ofInt 3) with
    | true =>
      have z2 : (rkk T n p) = 3 := nq_eqt (a := (rkk T n p)) (b := 3) (by omega) (by omega) c2
      have yc2 := (rk3 (T := T) (n := n) (p := p)).mp z2
      cases c3 : xe_c .ne (nI (tkn T n p)) 0 with
      | true =>
        have z3 : (tkn T n p) ≠ 0 := nq_net (a := (tkn T n p)) (b := 0) (by omega) (by omega) c3
        refine xq_n 102 [0, 1] [(0, .ref 39), (1, .int (Int32.ofInt 0))] [.ref 39] h [true, true, false, true, true] 22 hq rfl ⟨(show xe_c .ne (xg 0 h.2.1 39 9) (Int32.ofInt 2) = true by rw [show (xg 0 h.2.1 39 9) = (nI (rkk T n p)) from rt.2.1]; exact c1), (show xe_c .eq (xg 0 h.2.1 39 9) (Int32.ofInt 3) = true by rw [show (xg 0 h.2.1 39 9) = (nI (rkk T n p)) from rt.2.1]; exact c2), (show xe_c .ne (xg 0 h.2.1 39 9) (Int32.ofInt 3) = false by rw [show (xg 0 h.2.1 39 9) = (nI (rkk T n p)) from rt.2.1, z2]; rfl), (show xe_c .ne (xg 0 h.2.1 39 10) 0 = true by rw [show (xg 0 h.2.1 39 10) = (nI (tkn T n p)) from rt.2.2.2.1 (by omega)]; exact c3), (by decide), trivial⟩ (fun hq => ?_)
        refine xq_run hq rfl rfl (rnm_q hT (rt) hq) ?_
        rintro v4 h_v4 ⟨rfl, rfl⟩
        cases b5 : (nmt T n p) with
        | true =>
          have db5 := of_decide_eq_true b5
          omega
        | false =>
          have db5 := of_decide_eq_false b5
          cases c6 : xe_c .ne (nI o) 120 with
          | true =>
            have z6 : o ≠ 120 := nq_net (a := o) (b := 120) (by omega) (by omega) c6
            refine xq_n 140 [0, 1] [(0, .ref 39), (1, .int (Int32.ofInt 0))] [.int 40, .ref 39] h [true, true] 9 hq rfl ⟨rfl, (show xe_c .ne (xg 0 h.2.1 39 27) 120 = true by rw [show (xg 0 h.2.1 39 27) = (nI o) from rr0.2.2.2.2.2.1]; exact c6), trivial⟩ (fun hq => ?_)
            refine xq_run hq rfl rfl (rsg_q (c := 40) (by decide) (by decide) hT (rt) hq) ?_
            rintro v7 h_v7 ⟨rfl, rfl⟩
            cases b8 : (decide (tkk T n p = 40)) with
            | true =>
              have db8 := of_decide_eq_true b8
              omega
            | false =>
              have db8 := of_decide_eq_false b8
              refine xq_n 185 [0, 1, 2] [(0, .ref 39), (1, .int (Int32.ofInt 0)), (2, .int (xg 0 (xh_ui h 39 27 ((xg 0 h.2.1 39 27) + (Int32.ofInt 1))).2.1 39 10))] [.ref 39] (xh_ui h 39 27 ((xg 0 h.2.1 39 27) + (Int32.ofInt 1))) [true, false] 17 hq rfl ⟨rfl, (show xe_c .ne (xg 0 (xh_ui h 39 27 ((xg 0 h.2.1 39 27) + (Int32.ofInt 1))).2.1 39 9) (Int32.ofInt 3) = false by rw [show (xg 0 (xh_ui h 39 27 ((xg 0 h.2.1 39 27) + (Int32.ofInt 1))).2.1 39 9) = (nI (rkk T n p)) from (gx_k (by decide)).trans (rt.2.1), z2]; rfl), trivial⟩ (fun _ => ?_)
              rw [show (xg 0 (xh_ui h 39 27 ((xg 0 h.2.1 39 27) + (Int32.ofInt 1))).2.1 39 10) = (nI (tkn T n p)) from (gx_k (by decide)).trans (rt.2.2.2.1 (by omega))]
              rw [show (xg 0 h.2.1 39 27) = (nI o) from rr0.2.2.2.2.2.1]
              rw [show ((nI o) + (Int32.ofInt 1)) = nI (o + 1) from nI_1 _]
              have hq : a_rq a_tb (xh_ui h 39 27 (nI (o + 1))) := a_rq_ui hq
              have nz9 : tkk T n p ≠ 0 := by omega
              have le9 := tke_le nz9
              refine xq_run hq rfl rfl (go_q hq (rtp_f (S := rS) (L := gL) rr0.1 (fx_ui (fx_0) rfl) rfl (fun _ => rfl)) ((gx_k (by decide)).trans (rt.2.2.2.2.2 (by omega))) le9) ?_
              rintro v9 h9 ⟨rfl, g9, t9⟩
              have hq := fx_q g9 hq
              have rb9 := (rkk_k (T := T) (n := n) (p := tke T n p)).1
              have kb9 := tkk_lt (T := T) (n := n) (p := tke T n p) hT
              refine xq_n 190 [0, 1, 2] [(0, .ref 39), (1, .int (Int32.ofInt 0)), (2, .int (nI (tkn T n p)))] [.int (nI (tkn T n p)), .ref 39] h9 [] 4 hq rfl trivial (fun hq => ?_)
              have er : bo T n mem nn NW p o fs = bls T n (tke T n p) (o + 1) fs := by
                unfold bo
                repeat (first | rw [if_pos (by omega)] | rw [if_neg (by omega)] | rw [if_pos b5] | rw [if_neg (by rw [b5]; decide)] | rw [if_pos b8] | rw [if_neg (by rw [b8]; decide)] | rw [if_pos (show lone T n p = true from decide_eq_true (by omega))] | rw [if_neg (show ¬ lone T n p = true from fun e => by have := of_decide_eq_true e; omega)])
                try rfl
              refine xq_run hq rfl rfl (bls_q ⟨rtp_f (S := rS) (L := gL) rr0.1 (fx_t (fx_ui (fx_0) rfl) (fx_w g9 (fun _ _ => gS_r) (fun _ _ z => z))) rfl (fun _ => rfl), t9, (fx_i g9 rfl).trans ((gx_k (by decide)).trans (rr0.2.2.1)), rr0.2.2.2.1, nms_f (S := rS) (L := gL) rr0.2.2.2.2.1 (fx_t (fx_ui (fx_0) rfl) (fx_w g9 (fun _ _ => gS_r) (fun _ _ z => z))) rfl (fun _ => rfl), (fx_i g9 rfl).trans (gx_s), by omega, (fx_i g9 rfl).trans ((gx_k (by decide)).trans (rr0.2.2.2.2.2.2.2.1)), rr0.2.2.2.2.2.2.2.2.1, rr0.2.2.2.2.2.2.2.2.2.1, frs_c (fun k hk' => (fx_i g9 rfl).trans (gx_o (by decide))) rr0.2.2.2.2.2.2.2.2.2.2.1, (fx_i g9 rfl).trans ((gx_k (by decide)).trans (rr0.2.2.2.2.2.2.2.2.2.2.2))⟩ hq) ?_
              rintro v10 h10 ⟨g10, l10, q10⟩
              have hq := fx_q g10 hq
              rw [er]
              have hv10 : ∃ x, v10 = some (.int x) := by
                cases hr10 : (bls T n (tke T n p) (o + 1) fs) with
                | inl s => obtain ⟨a1, a2, a3, a4⟩ := s; exact ⟨1, (l10 _ _ _ _ hr10).1⟩
                | inr e => obtain ⟨a1, a2⟩ := e; exact ⟨0, (q10 _ _ hr10).1⟩
              obtain ⟨x10, rfl⟩ := hv10
              exact xq_ret rfl rfl rfl ⟨fx_t (fx_t (fx_ui (fx_0) rfl) (fx_w g9 (fun _ _ => gS_r) (fun _ _ z => z))) (g10), l10, q10⟩
          | false =>
            have z6 : o = 120 := nq_nef (a := o) (b := 120) (by omega) (by omega) c6
            refine xq_n 133 [0, 1] [(0, .ref 39), (1, .int (Int32.ofInt 0))] [.int (Int32.ofInt 4), .ref 39] h [true, false] 9 hq rfl ⟨rfl, (show xe_c .ne (xg 0 h.2.1 39 27) 120 = false by rw [show (xg 0 h.2.1 39 27) = (nI o) from rr0.2.2.2.2.2.1]; exact c6), trivial⟩ (fun hq => ?_)
            refine xq_run hq rfl rfl (bad_q (k := 4) hT (rt) hq) ?_
            rintro v11 h11 ⟨rfl, g11, f11, l11⟩
            have hq := fx_q g11 hq
            rw [if_neg (show ¬ rkk T n p = 1 from fun e => by have e1 := rk1.mp e; omega)] at f11
            have er : bo T n mem nn NW p o fs = .inr (4, tks T n p) := by
              unfold bo
              repeat (first | rw [if_pos (by omega)] | rw [if_neg (by omega)] | rw [if_pos b5] | rw [if_neg (by rw [b5]; decide)] | rw [if_pos (show lone T n p = true from decide_eq_true (by omega))] | rw [if_neg (show ¬ lone T n p = true from fun e => by have := of_decide_eq_true e; omega)])
              try rfl
            exact xq_ret rfl rfl rfl (ou_r er (fx_t (fx_0) (fx_w g11 (fun _ _ => bS_r) (fun _ _ _ => rfl))) rfl (f11) (l11))
      | false =>
        have z3 : (tkn T n p) = 0 := nq_nef (a := (tkn T n p)) (b := 0) (by omega) (by omega) c3
        refine xq_n 73 [0, 1] [(0, .ref 39), (1, .int (Int32.ofInt 0))] [.int (Int32.ofInt 2), .ref 39] h [true, true, false, false] 21 hq rfl ⟨(show xe_c .ne (xg 0 h.2.1 39 9) (Int32.ofInt 2) = true by rw [show (xg 0 h.2.1 39 9) = (nI (rkk T n p)) from rt.2.1]; exact c1), (show xe_c .eq (xg 0 h.2.1 39 9) (Int32.ofInt 3) = true by rw [show (xg 0 h.2.1 39 9) = (nI (rkk T n p)) from rt.2.1]; exact c2), (show xe_c .ne (xg 0 h.2.1 39 9) (Int32.ofInt 3) = false by rw [show (xg 0 h.2.1 39 9) = (nI (rkk T n p)) from rt.2.1, z2]; rfl), (show xe_c .ne (xg 0 h.2.1 39 10) 0 = false by rw [show (xg 0 h.2.1 39 10) = (nI (tkn T n p)) from rt.2.2.2.1 (by omega)]; exact c3), trivial⟩ (fun hq => ?_)
        refine xq_run hq rfl rfl (bad_q (k := 2) hT (rt) hq) ?_
        rintro v12 h12 ⟨rfl, g12, f12, l12⟩
        have hq := fx_q g12 hq
        rw [if_neg (show ¬ rkk T n p = 1 from fun e => by have e1 := rk1.mp e; omega)] at f12
        have er : bo T n mem nn NW p o fs = .inr (2, tks T n p) := by
          unfold bo
          repeat (first | rw [if_pos (by omega)] | rw [if_neg (by omega)] | rw [if_pos (show lone T n p = true from decide_eq_true (by omega))] | rw [if_neg (show ¬ lone T n p = true from fun e => by have := of_decide_eq_true e; omega)])
          try rfl
        exact xq_ret rfl rfl rfl (ou_r er (fx_t (fx_0) (fx_w g12 (fun _ _ => bS_r) (fun _ _ _ => rfl))) rfl (f12) (l12))
    | false =>
      have z2 : (rkk T n p) ≠ 3 := nq_eqf (a := (rkk T n p)) (b := 3) (by omega) (by omega) c2
      have yc2 := mt (rk3 (T := T) (n := n) (p := p)).mpr z2
      refine xq_n 33 [0, 1] [(0, .ref 39), (1, .int (Int32.ofInt 0))] [.int 40, .ref 39] h [true, false] 14 hq rfl ⟨(show xe_c .ne (xg 0 h.2.1 39 9) (Int32.ofInt 2) = true by rw [show (xg 0 h.2.1 39 9) = (nI (rkk T n p)) from rt.2.1]; exact c1), (show xe_c .eq (xg 0 h.2.1 39 9) (Int32.ofInt 3) = false by rw [show (xg 0 h.2.1 39 9) = (nI (rkk T n p)) from rt.2.1]; exact c2), trivial⟩ (fun hq => ?_)
      refine xq_run hq rfl rfl (rsg_q (c := 40) (by decide) (by decide) hT (rt) hq) ?_
      rintro v13 h_v13 ⟨rfl, rfl⟩
      cases b14 : (decide (tkk T n p = 40)) with
      | true =>
        have db14 := of_decide_eq_true b14
        refine xq_n 102 [0, 1] [(0, .ref 39), (1, .int (Int32.ofInt 0))] [.ref 39] h [true, true, true] 10 hq rfl ⟨rfl, (show xe_c .ne (xg 0 h.2.1 39 9) (Int32.ofInt 3) = true by rw [show (xg 0 h.2.1 39 9) = (nI (rkk T n p)) from rt.2.1, xc_ne, c2]; rfl), (by decide), trivial⟩ (fun hq => ?_)
        refine xq_run hq rfl rfl (rnm_q hT (rt) hq) ?_
        rintro v15 h_v15 ⟨rfl, rfl⟩
        cases b16 : (nmt T n p) with
        | true =>
          have db16 := of_decide_eq_true b16
          omega
        | false =>
          have db16 := of_decide_eq_false b16
          cases c17 : xe_c .ne (nI o) 120 with
          | true =>
            have z17 : o ≠ 120 := nq_net (a := o) (b := 120) (by omega) (by omega) c17
            refine xq_n 140 [0, 1] [(0, .ref 39), (1, .int (Int32.ofInt 0))] [.int 40, .ref 39] h [true, true] 9 hq rfl ⟨rfl, (show xe_c .ne (xg 0 h.2.1 39 27) 120 = true by rw [show (xg 0 h.2.1 39 27) = (nI o) from rr0.2.2.2.2.2.1]; exact c17), trivial⟩ (fun hq => ?_)
            refine xq_run hq rfl rfl (rsg_q (c := 40) (by decide) (by decide) hT (rt) hq) ?_
            rintro v18 h_v18 ⟨rfl, rfl⟩
            cases c19 : xe_c .ne (nI (fs.length - 1)) 12 with
            | true =>
              have z19 : (fs.length - 1) ≠ 12 := nq_net (a := (fs.length - 1)) (b := 12) (by omega) (by omega) c19
              cases c20 : xe_c .ne (nI (rkk T n p)) (Int32.ofInt 4) with
              | true =>
                have z20 : (rkk T n p) ≠ 4 := nq_net (a := (rkk T n p)) (b := 4) (by omega) (by omega) c20
                have yc20 := mt (rk4 (T := T) (n := n) (p := p)).mpr z20
                omega
              | false =>
                have z20 : (rkk T n p) = 4 := nq_nef (a := (rkk T n p)) (b := 4) (by omega) (by omega) c20
                have yc20 := (rk4 (T := T) (n := n) (p := p)).mp z20
                refine xq_n 214 [0, 1] [(0, .ref 39), (1, .int (Int32.ofInt 0))] [.int (Int32.ofInt 1), .ref 39] (xh_ui (xh_ui h 39 27 ((xg 0 h.2.1 39 27) + (Int32.ofInt 1))) 39 28 ((xg 0 (xh_ui h 39 27 ((xg 0 h.2.1 39 27) + (Int32.ofInt 1))).2.1 39 28) + (Int32.ofInt 1))) [false, true, true, false] 29 hq rfl ⟨(show xe_c .eq (bl (decide (tkk T n p = 40))) 0 = false by rw [b14]; rfl), (show xe_c .ne (xg 0 h.2.1 39 28) 12 = true by rw [show (xg 0 h.2.1 39 28) = (nI (fs.length - 1)) from rr0.2.2.2.2.2.2.2.1]; exact c19), (show xe_c .ne (xg 0 (xh_ui h 39 27 ((xg 0 h.2.1 39 27) + (Int32.ofInt 1))).2.1 39 9) (Int32.ofInt 3) = true by rw [show (xg 0 (xh_ui h 39 27 ((xg 0 h.2.1 39 27) + (Int32.ofInt 1))).2.1 39 9) = (nI (rkk T n p)) from (gx_k (by decide)).trans (rt.2.1), xc_ne, c2]; rfl), (show xe_c .ne (xg 0 (xh_ui h 39 27 ((xg 0 h.2.1 39 27) + (Int32.ofInt 1))).2.1 39 9) (Int32.ofInt 4) = false by rw [show (xg 0 (xh_ui h 39 27 ((xg 0 h.2.1 39 27) + (Int32.ofInt 1))).2.1 39 9) = (nI (rkk T n p)) from (gx_k (by decide)).trans (rt.2.1)]; exact c20), trivial⟩ (fun _ => ?_)
                rw [show (xg 0 (xh_ui h 39 27 ((xg 0 h.2.1 39 27) + (Int32.ofInt 1))).2.1 39 28) = (nI (fs.length - 1)) from (gx_k (by decide)).trans (rr0.2.2.2.2.2.2.2.1)]
                rw [show (xg 0 h.2.1 39 27) = (nI o) from rr0.2.2.2.2.2.1]
                rw [show ((nI o) + (Int32.ofInt 1)) = nI (o + 1) from nI_1 _]
                rw [show ((nI (fs.length - 1)) + (Int32.ofInt 1)) = nI (fs.length - 1 + 1) from nI_1 _]
                rw [show (nI (fs.length - 1 + 1)) = nI fs.length from (by rw [show fs.length - 1 + 1 = fs.length by omega])]
                have hq : a_rq a_tb (xh_ui (xh_ui h 39 27 (nI (o + 1))) 39 28 (nI fs.length)) := a_rq_ui (a_rq_ui hq)
                have nz21 : tkk T n p ≠ 0 := by omega
                refine xq_run hq rfl rfl (opr_q (ty := 1) (t := fs.length) (by omega) (tke_le nz21) hq (rtp_f (S := rS) (L := gL) rr0.1 (fx_ui (fx_ui (fx_0) rfl) rfl) rfl (fun _ => rfl)) ((gx_k (by decide)).trans ((gx_k (by decide)).trans (rt.2.2.2.2.2 (by omega)))) (gx_s)) ?_
                rintro v21 h21 ⟨rfl, g21, t21, y21, a21⟩
                have hq := fx_q g21 hq
                refine xq_n 218 [] [] [.int (Int32.ofInt 1)] h21 [] 3 hq rfl trivial (fun hq => ?_)
                have er : bo T n mem nn NW p o fs = .inl (1, tke T n p, (o + 1), 1 :: fs) := by
                  unfold bo
                  repeat (first | rw [if_pos (by omega)] | rw [if_neg (by omega)] | rw [if_pos b14] | rw [if_neg (by rw [b14]; decide)] | rw [if_pos b16] | rw [if_neg (by rw [b16]; decide)] | rw [if_pos (show lone T n p = true from decide_eq_true (by omega))] | rw [if_neg (show ¬ lone T n p = true from fun e => by have := of_decide_eq_true e; omega)])
                  try rfl
                exact xq_ret rfl rfl rfl (ou_l er (fx_t (fx_ui (fx_ui (fx_0) rfl) rfl) (fx_w g21 (fun _ _ => oS_r) (fun _ _ z => z))) rfl ⟨rtp_f (S := rS) (L := gL) rr0.1 (fx_t (fx_ui (fx_ui (fx_0) rfl) rfl) (fx_w g21 (fun _ _ => oS_r) (fun _ _ z => z))) rfl (fun _ => rfl), t21, (fx_i g21 rfl).trans ((gx_k (by decide)).trans ((gx_k (by decide)).trans (rr0.2.2.1))), rr0.2.2.2.1, nms_f (S := rS) (L := gL) rr0.2.2.2.2.1 (fx_t (fx_ui (fx_ui (fx_0) rfl) rfl) (fx_w g21 (fun _ _ => oS_r) (fun _ _ z => z))) rfl (fun _ => rfl), (fx_i g21 rfl).trans ((gx_k (by decide)).trans (gx_s)), by omega, ((fx_i g21 rfl).trans (gx_s)), by simp only [List.length_cons]; omega, by simp only [List.length_cons]; omega, ⟨y21, by decide, frs_c (fun k hk' => (fx_i g21 (o47 hk')).trans ((gx_o (by decide)).trans (gx_o (by decide)))) rr0.2.2.2.2.2.2.2.2.2.2.1⟩, (fx_i g21 rfl).trans ((gx_k (by decide)).trans ((gx_k (by decide)).trans (rr0.2.2.2.2.2.2.2.2.2.2.2)))⟩ (a21))
            | false =>
              have z19 : (fs.length - 1) = 12 := nq_nef (a := (fs.length - 1)) (b := 12) (by omega) (by omega) c19
              refine xq_n 157 [0, 1] [(0, .ref 39), (1, .int (Int32.ofInt 0))] [.int (Int32.ofInt 4), .ref 39] h [false, false] 9 hq rfl ⟨(show xe_c .eq (bl (decide (tkk T n p = 40))) 0 = false by rw [b14]; rfl), (show xe_c .ne (xg 0 h.2.1 39 28) 12 = false by rw [show (xg 0 h.2.1 39 28) = (nI (fs.length - 1)) from rr0.2.2.2.2.2.2.2.1]; exact c19), trivial⟩ (fun hq => ?_)
              refine xq_run hq rfl rfl (bad_q (k := 4) hT (rt) hq) ?_
              rintro v22 h22 ⟨rfl, g22, f22, l22⟩
              have hq := fx_q g22 hq
              rw [if_neg (show ¬ rkk T n p = 1 from fun e => by have e1 := rk1.mp e; omega)] at f22
              have er : bo T n mem nn NW p o fs = .inr (4, tks T n p) := by
                unfold bo
                repeat (first | rw [if_pos (by omega)] | rw [if_neg (by omega)] | rw [if_pos b14] | rw [if_neg (by rw [b14]; decide)] | rw [if_pos b16] | rw [if_neg (by rw [b16]; decide)] | rw [if_pos (show lone T n p = true from decide_eq_true (by omega))] | rw [if_neg (show ¬ lone T n p = true from fun e => by have := of_decide_eq_true e; omega)])
                try rfl
              exact xq_ret rfl rfl rfl (ou_r er (fx_t (fx_0) (fx_w g22 (fun _ _ => bS_r) (fun _ _ _ => rfl))) rfl (f22) (l22))
          | false =>
            have z17 : o = 120 := nq_nef (a := o) (b := 120) (by omega) (by omega) c17
            refine xq_n 133 [0, 1] [(0, .ref 39), (1, .int (Int32.ofInt 0))] [.int (Int32.ofInt 4), .ref 39] h [true, false] 9 hq rfl ⟨rfl, (show xe_c .ne (xg 0 h.2.1 39 27) 120 = false by rw [show (xg 0 h.2.1 39 27) = (nI o) from rr0.2.2.2.2.2.1]; exact c17), trivial⟩ (fun hq => ?_)
            refine xq_run hq rfl rfl (bad_q (k := 4) hT (rt) hq) ?_
            rintro v23 h23 ⟨rfl, g23, f23, l23⟩
            have hq := fx_q g23 hq
            rw [if_neg (show ¬ rkk T n p = 1 from fun e => by have e1 := rk1.mp e; omega)] at f23
            have er : bo T n mem nn NW p o fs = .inr (4, tks T n p) := by
              unfold bo
              repeat (first | rw [if_pos (by omega)] | rw [if_neg (by omega)] | rw [if_pos b14] | rw [if_neg (by rw [b14]; decide)] | rw [if_pos b16] | rw [if_neg (by rw [b16]; decide)] | rw [if_pos (show lone T n p = true from decide_eq_true (by omega))] | rw [if_neg (show ¬ lone T n p = true from fun e => by have := of_decide_eq_true e; omega)])
              try rfl
            exact xq_ret rfl rfl rfl (ou_r er (fx_t (fx_0) (fx_w g23 (fun _ _ => bS_r) (fun _ _ _ => rfl))) rfl (f23) (l23))
      | false =>
        have db14 := of_decide_eq_false b14
        refine xq_n 44 [0, 1] [(0, .ref 39), (1, .int (Int32.ofInt 0))] [.ref 39] h [false, false] 6 hq rfl ⟨rfl, (by decide), trivial⟩ (fun hq => ?_)
        refine xq_run hq rfl rfl (rnm_q hT (rt) hq) ?_
        rintro v24 h_v24 ⟨rfl, rfl⟩
        cases b25 : (nmt T n p) with
        | true =>
          have db25 := of_decide_eq_true b25
          omega
        | false =>
          have db25 := of_decide_eq_false b25
          refine xq_n 52 [0, 1] [(0, .ref 39), (1, .int (Int32.ofInt 0))] [.int (Int32.ofInt 1), .ref 39] h [false] 5 hq rfl ⟨rfl, trivial⟩ (fun hq => ?_)
          refine xq_run hq rfl rfl (bad_q (k := 1) hT (rt) hq) ?_
          rintro v26 h26 ⟨rfl, g26, f26, l26⟩
          have hq := fx_q g26 hq
          rw [show (if rkk T n p = 1 then 1 else 1) = 1 by split <;> rfl] at f26
          have er : bo T n mem nn NW p o fs = .inr (1, tks T n p) := by
            unfold bo
            repeat (first | rw [if_pos (by omega)] | rw [if_neg (by omega)] | rw [if_pos b14] | rw [if_neg (by rw [b14]; decide)] | rw [if_pos b25] | rw [if_neg (by rw [b25]; decide)] | rw [if_pos (show lone T n p = true from decide_eq_true (by omega))] | rw [if_neg (show ¬ lone T n p = true from fun e => by have := of_decide_eq_true e; omega)])
            try rfl
          exact xq_ret rfl rfl rfl (ou_r er (fx_t (fx_0) (fx_w g26 (fun _ _ => bS_r) (fun _ _ _ => rfl))) rfl (f26) (l26))
  | false =>
    have z1 : (rkk T n p) = 2 := nq_nef (a := (rkk T n p)) (b := 2) (by omega) (by omega) c1
    have yc1 := (rk2 (T := T) (n := n) (p := p)).mp z1
    have wlt := tkw_lt (T := T) (n := n) (p := p) yc1
    have tk2' := (tk2 (T := T) (n := n) (p := p) yc1).2.1
    cases c27 : xe_c .ne (nI (tke T n p - tks T n p)) (Int32.ofInt 1) with
    | true =>
      have z27 : (tke T n p - tks T n p) ≠ 1 := nq_net (a := (tke T n p - tks T n p)) (b := 1) (by omega) (by omega) c27
      refine xq_n 33 [0, 1] [(0, .ref 39), (1, .int (Int32.ofInt 0))] [.int 40, .ref 39] h [false, true, false] 18 hq rfl ⟨(show xe_c .ne (xg 0 h.2.1 39 9) (Int32.ofInt 2) = false by rw [show (xg 0 h.2.1 39 9) = (nI (rkk T n p)) from rt.2.1]; exact c1), (show xe_c .ne (xg 0 h.2.1 39 12) (Int32.ofInt 1) = true by rw [show (xg 0 h.2.1 39 12) = (nI (tke T n p - tks T n p)) from (rt.2.2.1 (by omega)).1]; exact c27), (show xe_c .eq (xg 0 h.2.1 39 9) (Int32.ofInt 3) = false by rw [show (xg 0 h.2.1 39 9) = (nI (rkk T n p)) from rt.2.1, z1]; rfl), trivial⟩ (fun hq => ?_)
      refine xq_run hq rfl rfl (rsg_q (c := 40) (by decide) (by decide) hT (rt) hq) ?_
      rintro v28 h_v28 ⟨rfl, rfl⟩
      cases b29 : (decide (tkk T n p = 40)) with
      | true =>
        have db29 := of_decide_eq_true b29
        omega
      | false =>
        have db29 := of_decide_eq_false b29
        refine xq_n 44 [0, 1] [(0, .ref 39), (1, .int (Int32.ofInt 0))] [.ref 39] h [false, false] 6 hq rfl ⟨rfl, (by decide), trivial⟩ (fun hq => ?_)
        refine xq_run hq rfl rfl (rnm_q hT (rt) hq) ?_
        rintro v30 h_v30 ⟨rfl, rfl⟩
        cases b31 : (nmt T n p) with
        | true =>
          have db31 := of_decide_eq_true b31
          refine xq_n 102 [0, 1] [(0, .ref 39), (1, .int (Int32.ofInt 0))] [.ref 39] h [true, true, true] 10 hq rfl ⟨rfl, (show xe_c .ne (xg 0 h.2.1 39 9) (Int32.ofInt 3) = true by rw [show (xg 0 h.2.1 39 9) = (nI (rkk T n p)) from rt.2.1, z1]; rfl), (by decide), trivial⟩ (fun hq => ?_)
          refine xq_run hq rfl rfl (rnm_q hT (rt) hq) ?_
          rintro v32 h_v32 ⟨rfl, rfl⟩
          refine xq_n 109 [0, 1] [(0, .ref 39), (1, .int (Int32.ofInt 0))] [.ref 39] h [false] 4 hq rfl ⟨(show xe_c .eq (bl (nmt T n p)) 0 = false by rw [b31]; rfl), trivial⟩ (fun hq => ?_)
          refine xq_run hq rfl rfl (nh_q (rr0.2.2.2.2.1) ((rt.2.2.1 (by omega)).2) (tkw_lt (by omega)) hq) ?_
          rintro v33 h_33 ⟨rfl, ⟨rfl, hn33⟩ | ⟨kk33, kl33, rfl, -, hn33⟩⟩
          · skip
            refine xq_n 118 [0, 1] [(0, .ref 39), (1, .int (Int32.ofInt 0))] [.int (Int32.ofInt 3), .ref 39] h [false] 6 hq rfl ⟨(by decide), trivial⟩ (fun hq => ?_)
            refine xq_run hq rfl rfl (bad_q (k := 3) hT (rt) hq) ?_
            rintro v34 h34 ⟨rfl, g34, f34, l34⟩
            have hq := fx_q g34 hq
            rw [if_neg (show ¬ rkk T n p = 1 from fun e => by have e1 := rk1.mp e; omega)] at f34
            have er : bo T n mem nn NW p o fs = .inr (3, tks T n p) := by
              unfold bo
              repeat (first | rw [if_pos (by omega)] | rw [if_neg (by omega)] | rw [if_pos b29] | rw [if_neg (by rw [b29]; decide)] | rw [if_pos b31] | rw [if_neg (by rw [b31]; decide)] | rw [if_pos hn33] | rw [if_neg (by rw [hn33]; decide)] | rw [if_pos (show lone T n p = true from decide_eq_true (by omega))] | rw [if_neg (show ¬ lone T n p = true from fun e => by have := of_decide_eq_true e; omega)])
              try rfl
            exact xq_ret rfl rfl rfl (ou_r er (fx_t (fx_0) (fx_w g34 (fun _ _ => bS_r) (fun _ _ _ => rfl))) rfl (f34) (l34))
          · skip
            cases c35 : xe_c .ne (nI kk33) (Int32.ofInt (-1)) with
            | true =>
              cases c36 : xe_c .ne (nI o) 120 with
              | true =>
                have z36 : o ≠ 120 := nq_net (a := o) (b := 120) (by omega) (by omega) c36
                refine xq_n 140 [0, 1] [(0, .ref 39), (1, .int (Int32.ofInt 0))] [.int 40, .ref 39] h [true, true] 10 hq rfl ⟨c35, (show xe_c .ne (xg 0 h.2.1 39 27) 120 = true by rw [show (xg 0 h.2.1 39 27) = (nI o) from rr0.2.2.2.2.2.1]; exact c36), trivial⟩ (fun hq => ?_)
                refine xq_run hq rfl rfl (rsg_q (c := 40) (by decide) (by decide) hT (rt) hq) ?_
                rintro v37 h_v37 ⟨rfl, rfl⟩
                refine xq_n 228 [0, 1, 2] [(0, .ref 39), (1, .int (Int32.ofInt 0)), (2, .int (((xg 0 (xh_ui h 39 27 ((xg 0 h.2.1 39 27) + (Int32.ofInt 1))).2.2.1 39 15).toInt32) - (Int32.ofInt 1)))] [.ref 39] (xh_ui h 39 27 ((xg 0 h.2.1 39 27) + (Int32.ofInt 1))) [true, true, true] 24 hq rfl ⟨(show xe_c .eq (bl (decide (tkk T n p = 40))) 0 = true by rw [b29]; rfl), (show xe_c .ne (xg 0 (xh_ui h 39 27 ((xg 0 h.2.1 39 27) + (Int32.ofInt 1))).2.1 39 9) (Int32.ofInt 3) = true by rw [show (xg 0 (xh_ui h 39 27 ((xg 0 h.2.1 39 27) + (Int32.ofInt 1))).2.1 39 9) = (nI (rkk T n p)) from (gx_k (by decide)).trans (rt.2.1), z1]; rfl), (show xe_c .ne (xg 0 (xh_ui h 39 27 ((xg 0 h.2.1 39 27) + (Int32.ofInt 1))).2.1 39 9) (Int32.ofInt 4) = true by rw [show (xg 0 (xh_ui h 39 27 ((xg 0 h.2.1 39 27) + (Int32.ofInt 1))).2.1 39 9) = (nI (rkk T n p)) from (gx_k (by decide)).trans (rt.2.1), z1]; rfl), trivial⟩ (fun _ => ?_)
                rw [show (xg 0 (xh_ui h 39 27 ((xg 0 h.2.1 39 27) + (Int32.ofInt 1))).2.2.1 39 15) = (Int64.ofNat (tkw T n p)) from (rt.2.2.1 (by omega)).2]
                rw [show (xg 0 h.2.1 39 27) = (nI o) from rr0.2.2.2.2.2.1]
                rw [show ((nI o) + (Int32.ofInt 1)) = nI (o + 1) from nI_1 _]
                have hq : a_rq a_tb (xh_ui h 39 27 (nI (o + 1))) := a_rq_ui hq
                refine xq_run hq rfl rfl (nh_q (nms_f (S := rS) (L := gL) rr0.2.2.2.2.1 (fx_ui (fx_0) rfl) rfl (fun _ => rfl)) ((rt.2.2.1 (by omega)).2) (tkw_lt (by omega)) hq) ?_
                rintro v38 h_38 ⟨rfl, ⟨rfl, hn38⟩ | ⟨kk38, kl38, rfl, -, hn38⟩⟩
                · rw [hn33] at hn38; cases hn38
                · skip
                  refine xq_n 235 [0, 1, 2, 3, 4] [(0, .ref 39), (1, .int (Int32.ofInt 0)), (2, .int (((Int64.ofNat (tkw T n p)).toInt32) - (Int32.ofInt 1))), (3, .int (nI kk38)), (4, .int (Int32.ofInt 0))] [] (xh_ui h 39 27 (nI (o + 1))) [] 5 hq rfl trivial (fun hq => ?_)
                  have er : bo T n mem nn NW p o fs = .inl (0, tke T n p, (o + 1), fs) := by
                    unfold bo
                    repeat (first | rw [if_pos (by omega)] | rw [if_neg (by omega)] | rw [if_pos b29] | rw [if_neg (by rw [b29]; decide)] | rw [if_pos b31] | rw [if_neg (by rw [b31]; decide)] | rw [if_pos hn33] | rw [if_neg (by rw [hn33]; decide)] | rw [if_pos hn38] | rw [if_neg (by rw [hn38]; decide)] | rw [if_pos (show lone T n p = true from decide_eq_true (by omega))] | rw [if_neg (show ¬ lone T n p = true from fun e => by have := of_decide_eq_true e; omega)])
                    try rfl
                  rw [er]
                  exact bo_lp f _ _ _ _ _ (fx_ui (fx_0) rfl) (⟨rtp_f (S := rS) (L := gL) rr0.1 (fx_ui (fx_0) rfl) rfl (fun _ => rfl), rtk_ui (rt) rfl, (gx_k (by decide)).trans (rr0.2.2.1), rr0.2.2.2.1, nms_f (S := rS) (L := gL) rr0.2.2.2.2.1 (fx_ui (fx_0) rfl) rfl (fun _ => rfl), gx_s, by omega, (gx_k (by decide)).trans (rr0.2.2.2.2.2.2.2.1), rr0.2.2.2.2.2.2.2.2.1, rr0.2.2.2.2.2.2.2.2.2.1, frs_c (fun k hk' => gx_o (by decide)) rr0.2.2.2.2.2.2.2.2.2.2.1, (gx_k (by decide)).trans (rr0.2.2.2.2.2.2.2.2.2.2.2)⟩) (by omega) hq
              | false =>
                have z36 : o = 120 := nq_nef (a := o) (b := 120) (by omega) (by omega) c36
                refine xq_n 133 [0, 1] [(0, .ref 39), (1, .int (Int32.ofInt 0))] [.int (Int32.ofInt 4), .ref 39] h [true, false] 10 hq rfl ⟨c35, (show xe_c .ne (xg 0 h.2.1 39 27) 120 = false by rw [show (xg 0 h.2.1 39 27) = (nI o) from rr0.2.2.2.2.2.1]; exact c36), trivial⟩ (fun hq => ?_)
                refine xq_run hq rfl rfl (bad_q (k := 4) hT (rt) hq) ?_
                rintro v40 h40 ⟨rfl, g40, f40, l40⟩
                have hq := fx_q g40 hq
                rw [if_neg (show ¬ rkk T n p = 1 from fun e => by have e1 := rk1.mp e; omega)] at f40
                have er : bo T n mem nn NW p o fs = .inr (4, tks T n p) := by
                  unfold bo
                  repeat (first | rw [if_pos (by omega)] | rw [if_neg (by omega)] | rw [if_pos b29] | rw [if_neg (by rw [b29]; decide)] | rw [if_pos b31] | rw [if_neg (by rw [b31]; decide)] | rw [if_pos hn33] | rw [if_neg (by rw [hn33]; decide)] | rw [if_pos (show lone T n p = true from decide_eq_true (by omega))] | rw [if_neg (show ¬ lone T n p = true from fun e => by have := of_decide_eq_true e; omega)])
                  try rfl
                exact xq_ret rfl rfl rfl (ou_r er (fx_t (fx_0) (fx_w g40 (fun _ _ => bS_r) (fun _ _ _ => rfl))) rfl (f40) (l40))
            | false =>
              exact absurd (xne_j c35) (nIm1 (by omega))
        | false =>
          have db31 := of_decide_eq_false b31
          refine xq_n 52 [0, 1] [(0, .ref 39), (1, .int (Int32.ofInt 0))] [.int (Int32.ofInt 1), .ref 39] h [false] 5 hq rfl ⟨rfl, trivial⟩ (fun hq => ?_)
          refine xq_run hq rfl rfl (bad_q (k := 1) hT (rt) hq) ?_
          rintro v41 h41 ⟨rfl, g41, f41, l41⟩
          have hq := fx_q g41 hq
          rw [show (if rkk T n p = 1 then 1 else 1) = 1 by split <;> rfl] at f41
          have er : bo T n mem nn NW p o fs = .inr (1, tks T n p) := by
            unfold bo
            repeat (first | rw [if_pos (by omega)] | rw [if_neg (by omega)] | rw [if_pos b29] | rw [if_neg (by rw [b29]; decide)] | rw [if_pos b31] | rw [if_neg (by rw [b31]; decide)] | rw [if_pos (show lone T n p = true from decide_eq_true (by omega))] | rw [if_neg (show ¬ lone T n p = true from fun e => by have := of_decide_eq_true e; omega)])
            try rfl
          exact xq_ret rfl rfl rfl (ou_r er (fx_t (fx_0) (fx_w g41 (fun _ _ => bS_r) (fun _ _ _ => rfl))) rfl (f41) (l41))
    | false =>
      have z27 : (tke T n p - tks T n p) = 1 := nq_nef (a := (tke T n p - tks T n p)) (b := 1) (by omega) (by omega) c27
      refine xq_n 33 [0, 1] [(0, .ref 39), (1, .int (Int32.ofInt 1))] [.int 40, .ref 39] h [false, false, false] 19 hq rfl ⟨(show xe_c .ne (xg 0 h.2.1 39 9) (Int32.ofInt 2) = false by rw [show (xg 0 h.2.1 39 9) = (nI (rkk T n p)) from rt.2.1]; exact c1), (show xe_c .ne (xg 0 h.2.1 39 12) (Int32.ofInt 1) = false by rw [show (xg 0 h.2.1 39 12) = (nI (tke T n p - tks T n p)) from (rt.2.2.1 (by omega)).1]; exact c27), (show xe_c .eq (xg 0 h.2.1 39 9) (Int32.ofInt 3) = false by rw [show (xg 0 h.2.1 39 9) = (nI (rkk T n p)) from rt.2.1, z1]; rfl), trivial⟩ (fun hq => ?_)
      refine xq_run hq rfl rfl (rsg_q (c := 40) (by decide) (by decide) hT (rt) hq) ?_
      rintro v42 h_v42 ⟨rfl, rfl⟩
      cases b43 : (decide (tkk T n p = 40)) with
      | true =>
        have db43 := of_decide_eq_true b43
        omega
      | false =>
        have db43 := of_decide_eq_false b43
        refine xq_n 89 [0, 1] [(0, .ref 39), (1, .int (Int32.ofInt 1))] [.int (((xg 0 h.2.2.1 39 15).toInt32) - (Int32.ofInt 1)), .ref 39] h [false, true, true, false] 17 hq rfl ⟨rfl, (by decide), (show xe_c .ne (xg 0 h.2.1 39 9) (Int32.ofInt 3) = true by rw [show (xg 0 h.2.1 39 9) = (nI (rkk T n p)) from rt.2.1, z1]; rfl), (by decide), trivial⟩ (fun hq => ?_)
        rw [show (xg 0 h.2.2.1 39 15) = (Int64.ofNat (tkw T n p)) from (rt.2.2.1 (by omega)).2]
        have lw := lone_w (T := T) (n := n) (p := p) (decide_eq_true (by omega))
        rw [show (((Int64.ofNat (tkw T n p)).toInt32) - (Int32.ofInt 1)) = nI (tkw T n p - 1) from ll_v (by omega) (by omega) (by omega)]
        refine xq_run hq rfl rfl (rmb_q (m := (tkw T n p - 1)) (by omega) rr0.2.2.2.1 (rr0.2.2.1) hq) ?_
        rintro v44 h_v44 ⟨rfl, rfl⟩
        cases b45 : (decide ((tkw T n p - 1) < mem)) with
        | true =>
          have db45 := of_decide_eq_true b45
          refine xq_n 102 [0, 1] [(0, .ref 39), (1, .int (Int32.ofInt 1))] [.ref 39] h [true] 4 hq rfl ⟨rfl, trivial⟩ (fun hq => ?_)
          refine xq_run hq rfl rfl (rnm_q hT (rt) hq) ?_
          rintro v46 h_v46 ⟨rfl, rfl⟩
          cases b47 : (nmt T n p) with
          | true =>
            have db47 := of_decide_eq_true b47
            omega
          | false =>
            have db47 := of_decide_eq_false b47
            cases c48 : xe_c .ne (nI o) 120 with
            | true =>
              have z48 : o ≠ 120 := nq_net (a := o) (b := 120) (by omega) (by omega) c48
              refine xq_n 140 [0, 1] [(0, .ref 39), (1, .int (Int32.ofInt 1))] [.int 40, .ref 39] h [true, true] 9 hq rfl ⟨rfl, (show xe_c .ne (xg 0 h.2.1 39 27) 120 = true by rw [show (xg 0 h.2.1 39 27) = (nI o) from rr0.2.2.2.2.2.1]; exact c48), trivial⟩ (fun hq => ?_)
              refine xq_run hq rfl rfl (rsg_q (c := 40) (by decide) (by decide) hT (rt) hq) ?_
              rintro v49 h_v49 ⟨rfl, rfl⟩
              refine xq_n 228 [0, 1, 2] [(0, .ref 39), (1, .int (Int32.ofInt 1)), (2, .int (((xg 0 (xh_ui h 39 27 ((xg 0 h.2.1 39 27) + (Int32.ofInt 1))).2.2.1 39 15).toInt32) - (Int32.ofInt 1)))] [.ref 39] (xh_ui h 39 27 ((xg 0 h.2.1 39 27) + (Int32.ofInt 1))) [true, true, true] 24 hq rfl ⟨(show xe_c .eq (bl (decide (tkk T n p = 40))) 0 = true by rw [b43]; rfl), (show xe_c .ne (xg 0 (xh_ui h 39 27 ((xg 0 h.2.1 39 27) + (Int32.ofInt 1))).2.1 39 9) (Int32.ofInt 3) = true by rw [show (xg 0 (xh_ui h 39 27 ((xg 0 h.2.1 39 27) + (Int32.ofInt 1))).2.1 39 9) = (nI (rkk T n p)) from (gx_k (by decide)).trans (rt.2.1), z1]; rfl), (show xe_c .ne (xg 0 (xh_ui h 39 27 ((xg 0 h.2.1 39 27) + (Int32.ofInt 1))).2.1 39 9) (Int32.ofInt 4) = true by rw [show (xg 0 (xh_ui h 39 27 ((xg 0 h.2.1 39 27) + (Int32.ofInt 1))).2.1 39 9) = (nI (rkk T n p)) from (gx_k (by decide)).trans (rt.2.1), z1]; rfl), trivial⟩ (fun _ => ?_)
              rw [show (xg 0 (xh_ui h 39 27 ((xg 0 h.2.1 39 27) + (Int32.ofInt 1))).2.2.1 39 15) = (Int64.ofNat (tkw T n p)) from (rt.2.2.1 (by omega)).2]
              rw [show (xg 0 h.2.1 39 27) = (nI o) from rr0.2.2.2.2.2.1]
              rw [show ((nI o) + (Int32.ofInt 1)) = nI (o + 1) from nI_1 _]
              have hq : a_rq a_tb (xh_ui h 39 27 (nI (o + 1))) := a_rq_ui hq
              refine xq_run hq rfl rfl (nh_q (nms_f (S := rS) (L := gL) rr0.2.2.2.2.1 (fx_ui (fx_0) rfl) rfl (fun _ => rfl)) ((rt.2.2.1 (by omega)).2) (tkw_lt (by omega)) hq) ?_
              rintro v50 h_50 ⟨rfl, ⟨rfl, hn50⟩ | ⟨kk50, kl50, rfl, -, hn50⟩⟩
              · skip
                refine xq_n 235 [0, 1, 2, 3, 4] [(0, .ref 39), (1, .int (Int32.ofInt 1)), (2, .int (((Int64.ofNat (tkw T n p)).toInt32) - (Int32.ofInt 1))), (3, .int (Int32.ofInt (-1))), (4, .int (Int32.ofInt 0))] [] (xh_ui h 39 27 (nI (o + 1))) [] 5 hq rfl trivial (fun hq => ?_)
                have er : bo T n mem nn NW p o fs = .inl (0, tke T n p, (o + 1), fs) := by
                  unfold bo
                  repeat (first | rw [if_pos (by omega)] | rw [if_neg (by omega)] | rw [if_pos b43] | rw [if_neg (by rw [b43]; decide)] | rw [if_pos b45] | rw [if_neg (by rw [b45]; decide)] | rw [if_pos b47] | rw [if_neg (by rw [b47]; decide)] | rw [if_pos hn50] | rw [if_neg (by rw [hn50]; decide)] | rw [if_pos (show lone T n p = true from decide_eq_true (by omega))] | rw [if_neg (show ¬ lone T n p = true from fun e => by have := of_decide_eq_true e; omega)])
                  try rfl
                rw [er]
                exact bo_lp f _ _ _ _ _ (fx_ui (fx_0) rfl) (⟨rtp_f (S := rS) (L := gL) rr0.1 (fx_ui (fx_0) rfl) rfl (fun _ => rfl), rtk_ui (rt) rfl, (gx_k (by decide)).trans (rr0.2.2.1), rr0.2.2.2.1, nms_f (S := rS) (L := gL) rr0.2.2.2.2.1 (fx_ui (fx_0) rfl) rfl (fun _ => rfl), gx_s, by omega, (gx_k (by decide)).trans (rr0.2.2.2.2.2.2.2.1), rr0.2.2.2.2.2.2.2.2.1, rr0.2.2.2.2.2.2.2.2.2.1, frs_c (fun k hk' => gx_o (by decide)) rr0.2.2.2.2.2.2.2.2.2.2.1, (gx_k (by decide)).trans (rr0.2.2.2.2.2.2.2.2.2.2.2)⟩) (by omega) hq
              · skip
                refine xq_n 235 [0, 1, 2, 3, 4] [(0, .ref 39), (1, .int (Int32.ofInt 1)), (2, .int (((Int64.ofNat (tkw T n p)).toInt32) - (Int32.ofInt 1))), (3, .int (nI kk50)), (4, .int (Int32.ofInt 0))] [] (xh_ui h 39 27 (nI (o + 1))) [] 5 hq rfl trivial (fun hq => ?_)
                have er : bo T n mem nn NW p o fs = .inl (0, tke T n p, (o + 1), fs) := by
                  unfold bo
                  repeat (first | rw [if_pos (by omega)] | rw [if_neg (by omega)] | rw [if_pos b43] | rw [if_neg (by rw [b43]; decide)] | rw [if_pos b45] | rw [if_neg (by rw [b45]; decide)] | rw [if_pos b47] | rw [if_neg (by rw [b47]; decide)] | rw [if_pos hn50] | rw [if_neg (by rw [hn50]; decide)] | rw [if_pos (show lone T n p = true from decide_eq_true (by omega))] | rw [if_neg (show ¬ lone T n p = true from fun e => by have := of_decide_eq_true e; omega)])
                  try rfl
                rw [er]
                exact bo_lp f _ _ _ _ _ (fx_ui (fx_0) rfl) (⟨rtp_f (S := rS) (L := gL) rr0.1 (fx_ui (fx_0) rfl) rfl (fun _ => rfl), rtk_ui (rt) rfl, (gx_k (by decide)).trans (rr0.2.2.1), rr0.2.2.2.1, nms_f (S := rS) (L := gL) rr0.2.2.2.2.1 (fx_ui (fx_0) rfl) rfl (fun _ => rfl), gx_s, by omega, (gx_k (by decide)).trans (rr0.2.2.2.2.2.2.2.1), rr0.2.2.2.2.2.2.2.2.1, rr0.2.2.2.2.2.2.2.2.2.1, frs_c (fun k hk' => gx_o (by decide)) rr0.2.2.2.2.2.2.2.2.2.2.1, (gx_k (by decide)).trans (rr0.2.2.2.2.2.2.2.2.2.2.2)⟩) (by omega) hq
            | false =>
              have z48 : o = 120 := nq_nef (a := o) (b := 120) (by omega) (by omega) c48
              refine xq_n 133 [0, 1] [(0, .ref 39), (1, .int (Int32.ofInt 1))] [.int (Int32.ofInt 4), .ref 39] h [true, false] 9 hq rfl ⟨rfl, (show xe_c .ne (xg 0 h.2.1 39 27) 120 = false by rw [show (xg 0 h.2.1 39 27) = (nI o) from rr0.2.2.2.2.2.1]; exact c48), trivial⟩ (fun hq => ?_)
              refine xq_run hq rfl rfl (bad_q (k := 4) hT (rt) hq) ?_
              rintro v53 h53 ⟨rfl, g53, f53, l53⟩
              have hq := fx_q g53 hq
              rw [if_neg (show ¬ rkk T n p = 1 from fun e => by have e1 := rk1.mp e; omega)] at f53
              have er : bo T n mem nn NW p o fs = .inr (4, tks T n p) := by
                unfold bo
                repeat (first | rw [if_pos (by omega)] | rw [if_neg (by omega)] | rw [if_pos b43] | rw [if_neg (by rw [b43]; decide)] | rw [if_pos b45] | rw [if_neg (by rw [b45]; decide)] | rw [if_pos b47] | rw [if_neg (by rw [b47]; decide)] | rw [if_pos (show lone T n p = true from decide_eq_true (by omega))] | rw [if_neg (show ¬ lone T n p = true from fun e => by have := of_decide_eq_true e; omega)])
                try rfl
              exact xq_ret rfl rfl rfl (ou_r er (fx_t (fx_0) (fx_w g53 (fun _ _ => bS_r) (fun _ _ _ => rfl))) rfl (f53) (l53))
        | false =>
          have db45 := of_decide_eq_false b45
          refine xq_n 97 [0, 1] [(0, .ref 39), (1, .int (Int32.ofInt 1))] [.int (Int32.ofInt 2), .ref 39] h [false] 5 hq rfl ⟨rfl, trivial⟩ (fun hq => ?_)
          refine xq_run hq rfl rfl (bad_q (k := 2) hT (rt) hq) ?_
          rintro v54 h54 ⟨rfl, g54, f54, l54⟩
          have hq := fx_q g54 hq
          rw [if_neg (show ¬ rkk T n p = 1 from fun e => by have e1 := rk1.mp e; omega)] at f54
          have er : bo T n mem nn NW p o fs = .inr (2, tks T n p) := by
            unfold bo
            repeat (first | rw [if_pos (by omega)] | rw [if_neg (by omega)] | rw [if_pos b43] | rw [if_neg (by rw [b43]; decide)] | rw [if_pos b45] | rw [if_neg (by rw [b45]; decide)] | rw [if_pos (show lone T n p = true from decide_eq_true (by omega))] | rw [if_neg (show ¬ lone T n p = true from fun e => by have := of_decide_eq_true e; omega)])
            try rfl
          exact xq_ret rfl rfl rfl (ou_r er (fx_t (fx_0) (fx_w g54 (fun _ _ => bS_r) (fun _ _ _ => rfl))) rfl (f54) (l54))
set_option maxRecDepth 100000 in
set_option maxHeartbeats 4000000 in
theorem bi_q {f p o : Nat} {fs : List Nat} {h : xh_H} (rr0 : rr h T n mem nn NW p o fs) (h3 : tkk T n p = 3) (hq : a_rq a_tb h) : xq f xi_X10_beginItem xmi_X10_beginItem 0 [(0, .ref 39)] [] h (ou_Q h T n mem nn NW (bi T n mem nn NW p o fs)) := by
  have hT : ∀ k, k < n → T k < 256 := fun k hk' => (rr0.1.2.2 k hk').1
  have rt := rr0.2.1
  have rb := (rkk_k (T := T) (n := n) (p := p)).1
  have kb := tkk_lt (T := T) (n := n) (p := p) hT
  have o120 := rr0.2.2.2.2.2.2.1
  have f1 := rr0.2.2.2.2.2.2.2.2.1
  have n16 := rr0.2.2.2.2.1.2.1
  have f13 := rr0.2.2.2.2.2.2.2.2.2.1
  have n6 := rr0.1.2.1
  have t9 : tkn T n p ≤ 999 := vf_999
  have s6 := tks_le (T := T) (n := n) (p := p)
  refine xq_n 11 [0, 1, 2] [(0, .ref 39), (1, .int (xg 0 h.2.1 39 10)), (2, .int (xg 0 h.2.1 39 8))] [.ref 39] h [] 9 hq rfl trivial (fun hq => ?_)
  rw [show (xg 0 h.2.1 39 10) = (nI (tkn T n p)) from rt.2.2.2.1 (by omega)]
  rw [show (xg 0 h.2.1 39 8) = (nI (tks T n p)) from rt.1]
  have nz1 : tkk T n p ≠ 0 := by omega
  have le1 := tke_le nz1
  refine xq_run hq rfl rfl (go_q hq (rr0.1) (rt.2.2.2.2.2 (by omega)) le1) ?_
  rintro v1 h1 ⟨rfl, g1, t1⟩
  have hq := fx_q g1 hq
  have rb1 := (rkk_k (T := T) (n := n) (p := tke T n p)).1
  have kb1 := tkk_lt (T := T) (n := n) (p := tke T n p) hT
  refine xq_n 17 [0, 1, 2] [(0, .ref 39), (1, .int (nI (tkn T n p))), (2, .int (nI (tks T n p)))] [.int 42, .ref 39] h1 [] 4 hq rfl trivial (fun hq => ?_)
  refine xq_run hq rfl rfl (rsg_q (c := 42) (by decide) (by decide) hT (t1) hq) ?_
  rintro v2 h_v2 ⟨rfl, rfl⟩
  cases b3 : (decide (tkk T n (tke T n p) = 42)) with
  | true =>
    have db3 := of_decide_eq_true b3
    refine xq_n 34 [0, 1, 2] [(0, .ref 39), (1, .int (nI (tkn T n p))), (2, .int (nI (tks T n p)))] [.ref 39] (xh_ui h1 48 ((xg 0 h1.2.1 39 28).toNatClampNeg) (nI (tkn T n p))) [false] 10 hq rfl ⟨rfl, trivial⟩ (fun _ => ?_)
    rw [show (xg 0 h1.2.1 39 28) = (nI (fs.length - 1)) from (fx_i g1 rfl).trans (rr0.2.2.2.2.2.2.2.1)]
    rw [show ((nI (fs.length - 1)).toNatClampNeg) = (fs.length - 1) from nI_clamp (by omega)]
    have hq : a_rq a_tb (xh_ui h1 48 (fs.length - 1) (nI (tkn T n p))) := a_rq_ui hq
    have nz4 : tkk T n (tke T n p) ≠ 0 := by omega
    have le4 := tke_le nz4
    refine xq_run hq rfl rfl (go_q hq (rtp_f (S := rS) (L := gL) rr0.1 (fx_ui (fx_t (fx_0) (fx_w g1 (fun _ _ => gS_r) (fun _ _ z => z))) rfl) rfl (fun _ => rfl)) ((gx_o (by decide)).trans (t1.2.2.2.2.2 (by omega))) le4) ?_
    rintro v4 h4 ⟨rfl, g4, t4⟩
    have hq := fx_q g4 hq
    have rb4 := (rkk_k (T := T) (n := n) (p := tke T n (tke T n p))).1
    have kb4 := tkk_lt (T := T) (n := n) (p := tke T n (tke T n p)) hT
    refine xq_n 38 [0, 1, 2] [(0, .ref 39), (1, .int (nI (tkn T n p))), (2, .int (nI (tks T n p)))] [.ref 39] h4 [] 3 hq rfl trivial (fun hq => ?_)
    have er : bi T n mem nn NW p o fs = bo T n mem nn NW (tke T n (tke T n p)) o fs := by
      unfold bi
      repeat (first | rw [if_pos (by omega)] | rw [if_neg (by omega)] | rw [if_pos b3] | rw [if_neg (by rw [b3]; decide)])
      try rfl
    refine xq_run hq rfl rfl (bo_q ⟨rtp_f (S := rS) (L := gL) rr0.1 (fx_t (fx_ui (fx_t (fx_0) (fx_w g1 (fun _ _ => gS_r) (fun _ _ z => z))) rfl) (fx_w g4 (fun _ _ => gS_r) (fun _ _ z => z))) rfl (fun _ => rfl), t4, (fx_i g4 rfl).trans ((gx_o (by decide)).trans ((fx_i g1 rfl).trans (rr0.2.2.1))), rr0.2.2.2.1, nms_f (S := rS) (L := gL) rr0.2.2.2.2.1 (fx_t (fx_ui (fx_t (fx_0) (fx_w g1 (fun _ _ => gS_r) (fun _ _ z => z))) rfl) (fx_w g4 (fun _ _ => gS_r) (fun _ _ z => z))) rfl (fun _ => rfl), (fx_i g4 rfl).trans ((gx_o (by decide)).trans ((fx_i g1 rfl).trans (rr0.2.2.2.2.2.1))), by omega, (fx_i g4 rfl).trans ((gx_o (by decide)).trans ((fx_i g1 rfl).trans (rr0.2.2.2.2.2.2.2.1))), rr0.2.2.2.2.2.2.2.2.1, rr0.2.2.2.2.2.2.2.2.2.1, frs_c (fun k hk' => (fx_i g4 rfl).trans ((gx_o (by decide)).trans (fx_i g1 rfl))) rr0.2.2.2.2.2.2.2.2.2.2.1, (fx_i g4 rfl).trans ((gx_o (by decide)).trans ((fx_i g1 rfl).trans (rr0.2.2.2.2.2.2.2.2.2.2.2)))⟩ hq) ?_
    rintro v5 h5 ⟨g5, l5, q5⟩
    have hq := fx_q g5 hq
    rw [er]
    have hv5 : ∃ x, v5 = some (.int x) := by
      cases hr5 : (bo T n mem nn NW (tke T n (tke T n p)) o fs) with
      | inl s => obtain ⟨a1, a2, a3, a4⟩ := s; exact ⟨1, (l5 _ _ _ _ hr5).1⟩
      | inr e => obtain ⟨a1, a2⟩ := e; exact ⟨0, (q5 _ _ hr5).1⟩
    obtain ⟨x5, rfl⟩ := hv5
    exact xq_ret rfl rfl rfl ⟨fx_t (fx_t (fx_ui (fx_t (fx_0) (fx_w g1 (fun _ _ => gS_r) (fun _ _ z => z))) rfl) (fx_w g4 (fun _ _ => gS_r) (fun _ _ z => z))) (g5), l5, q5⟩
  | false =>
    have db3 := of_decide_eq_false b3
    refine xq_n 53 [0, 1, 2] [(0, .ref 39), (1, .int (nI (tkn T n p))), (2, .int (nI (tks T n p)))] [.ref 39] (xh_ui h1 48 ((xg 0 h1.2.1 39 28).toNatClampNeg) (Int32.ofInt 1)) [true] 10 hq rfl ⟨rfl, trivial⟩ (fun _ => ?_)
    rw [show (xg 0 h1.2.1 39 28) = (nI (fs.length - 1)) from (fx_i g1 rfl).trans (rr0.2.2.2.2.2.2.2.1)]
    rw [show ((nI (fs.length - 1)).toNatClampNeg) = (fs.length - 1) from nI_clamp (by omega)]
    have hq : a_rq a_tb (xh_ui h1 48 (fs.length - 1) (Int32.ofInt 1)) := a_rq_ui hq
    refine xq_run hq rfl rfl (rw4_q hT (rtk_ui (t1) rfl) hq) ?_
    rintro v6 h_v6 ⟨rfl, rfl⟩
    cases b7 : (ky T n (tke T n p) 4) with
    | true =>
      have db7 := of_decide_eq_true b7
      cases c8 : xe_c .ne (nI (tkn T n p)) 0 with
      | true =>
        have z8 : (tkn T n p) ≠ 0 := nq_net (a := (tkn T n p)) (b := 0) (by omega) (by omega) c8
        cases c9 : xe_c .ne (nI o) 120 with
        | true =>
          have z9 : o ≠ 120 := nq_net (a := o) (b := 120) (by omega) (by omega) c9
          refine xq_n 104 [0, 1, 2] [(0, .ref 39), (1, .int (nI (tkn T n p))), (2, .int (nI (tks T n p)))] [.int (nI (tkn T n p)), .ref 39] (xh_ui (xh_ui h1 48 (fs.length - 1) (Int32.ofInt 1)) 39 27 ((xg 0 (xh_ui h1 48 (fs.length - 1) (Int32.ofInt 1)).2.1 39 27) + (Int32.ofInt 1))) [true, true, true] 17 hq rfl ⟨rfl, c8, (show xe_c .ne (xg 0 (xh_ui h1 48 (fs.length - 1) (Int32.ofInt 1)).2.1 39 27) 120 = true by rw [show (xg 0 (xh_ui h1 48 (fs.length - 1) (Int32.ofInt 1)).2.1 39 27) = (nI o) from (gx_o (by decide)).trans ((fx_i g1 rfl).trans (rr0.2.2.2.2.2.1))]; exact c9), trivial⟩ (fun _ => ?_)
          rw [show (xg 0 (xh_ui h1 48 (fs.length - 1) (Int32.ofInt 1)).2.1 39 27) = (nI o) from (gx_o (by decide)).trans ((fx_i g1 rfl).trans (rr0.2.2.2.2.2.1))]
          rw [show ((nI o) + (Int32.ofInt 1)) = nI (o + 1) from nI_1 _]
          have hq : a_rq a_tb (xh_ui (xh_ui h1 48 (fs.length - 1) (Int32.ofInt 1)) 39 27 (nI (o + 1))) := a_rq_ui hq
          have er : bi T n mem nn NW p o fs = bls T n (tke T n p) (o + 1) fs := by
            unfold bi
            repeat (first | rw [if_pos (by omega)] | rw [if_neg (by omega)] | rw [if_pos b3] | rw [if_neg (by rw [b3]; decide)] | rw [if_pos b7] | rw [if_neg (by rw [b7]; decide)])
            try rfl
          refine xq_run hq rfl rfl (bls_q ⟨rtp_f (S := rS) (L := gL) rr0.1 (fx_ui (fx_ui (fx_t (fx_0) (fx_w g1 (fun _ _ => gS_r) (fun _ _ z => z))) rfl) rfl) rfl (fun _ => rfl), rtk_ui (rtk_ui (t1) rfl) rfl, (gx_k (by decide)).trans ((gx_o (by decide)).trans ((fx_i g1 rfl).trans (rr0.2.2.1))), rr0.2.2.2.1, nms_f (S := rS) (L := gL) rr0.2.2.2.2.1 (fx_ui (fx_ui (fx_t (fx_0) (fx_w g1 (fun _ _ => gS_r) (fun _ _ z => z))) rfl) rfl) rfl (fun _ => rfl), gx_s, by omega, (gx_k (by decide)).trans ((gx_o (by decide)).trans ((fx_i g1 rfl).trans (rr0.2.2.2.2.2.2.2.1))), rr0.2.2.2.2.2.2.2.2.1, rr0.2.2.2.2.2.2.2.2.2.1, frs_c (fun k hk' => (gx_o (by decide)).trans ((gx_o (by decide)).trans (fx_i g1 rfl))) rr0.2.2.2.2.2.2.2.2.2.2.1, (gx_k (by decide)).trans ((gx_o (by decide)).trans ((fx_i g1 rfl).trans (rr0.2.2.2.2.2.2.2.2.2.2.2)))⟩ hq) ?_
          rintro v10 h10 ⟨g10, l10, q10⟩
          have hq := fx_q g10 hq
          rw [er]
          have hv10 : ∃ x, v10 = some (.int x) := by
            cases hr10 : (bls T n (tke T n p) (o + 1) fs) with
            | inl s => obtain ⟨a1, a2, a3, a4⟩ := s; exact ⟨1, (l10 _ _ _ _ hr10).1⟩
            | inr e => obtain ⟨a1, a2⟩ := e; exact ⟨0, (q10 _ _ hr10).1⟩
          obtain ⟨x10, rfl⟩ := hv10
          exact xq_ret rfl rfl rfl ⟨fx_t (fx_ui (fx_ui (fx_t (fx_0) (fx_w g1 (fun _ _ => gS_r) (fun _ _ z => z))) rfl) rfl) (g10), l10, q10⟩
        | false =>
          have z9 : o = 120 := nq_nef (a := o) (b := 120) (by omega) (by omega) c9
          refine xq_n 88 [0, 1, 2] [(0, .ref 39), (1, .int (nI (tkn T n p))), (2, .int (nI (tks T n p)))] [.int (nI (tks T n p)), .int (Int32.ofInt 4), .ref 39] (xh_ui h1 48 (fs.length - 1) (Int32.ofInt 1)) [true, true, false] 12 hq rfl ⟨rfl, c8, (show xe_c .ne (xg 0 (xh_ui h1 48 (fs.length - 1) (Int32.ofInt 1)).2.1 39 27) 120 = false by rw [show (xg 0 (xh_ui h1 48 (fs.length - 1) (Int32.ofInt 1)).2.1 39 27) = (nI o) from (gx_o (by decide)).trans ((fx_i g1 rfl).trans (rr0.2.2.2.2.2.1))]; exact c9), trivial⟩ (fun hq => ?_)
          refine xq_run hq rfl rfl (badAt_q (k := 4) (pl := (tks T n p)) hq) ?_
          rintro v11 h11 ⟨rfl, g11, f11, l11⟩
          have hq := fx_q g11 hq
          have er : bi T n mem nn NW p o fs = .inr (4, tks T n p) := by
            unfold bi
            repeat (first | rw [if_pos (by omega)] | rw [if_neg (by omega)] | rw [if_pos b3] | rw [if_neg (by rw [b3]; decide)] | rw [if_pos b7] | rw [if_neg (by rw [b7]; decide)])
            try rfl
          exact xq_ret rfl rfl rfl (ou_r er (fx_t (fx_ui (fx_t (fx_0) (fx_w g1 (fun _ _ => gS_r) (fun _ _ z => z))) rfl) (fx_w g11 (fun _ _ => bS_r) (fun _ _ _ => rfl))) rfl (f11) (l11))
      | false =>
        have z8 : (tkn T n p) = 0 := nq_nef (a := (tkn T n p)) (b := 0) (by omega) (by omega) c8
        refine xq_n 72 [0, 1, 2] [(0, .ref 39), (1, .int (nI (tkn T n p))), (2, .int (nI (tks T n p)))] [.int (nI (tks T n p)), .int (Int32.ofInt 2), .ref 39] (xh_ui h1 48 (fs.length - 1) (Int32.ofInt 1)) [true, false] 8 hq rfl ⟨rfl, c8, trivial⟩ (fun hq => ?_)
        refine xq_run hq rfl rfl (badAt_q (k := 2) (pl := (tks T n p)) hq) ?_
        rintro v12 h12 ⟨rfl, g12, f12, l12⟩
        have hq := fx_q g12 hq
        have er : bi T n mem nn NW p o fs = .inr (2, tks T n p) := by
          unfold bi
          repeat (first | rw [if_pos (by omega)] | rw [if_neg (by omega)] | rw [if_pos b3] | rw [if_neg (by rw [b3]; decide)] | rw [if_pos b7] | rw [if_neg (by rw [b7]; decide)])
          try rfl
        exact xq_ret rfl rfl rfl (ou_r er (fx_t (fx_ui (fx_t (fx_0) (fx_w g1 (fun _ _ => gS_r) (fun _ _ z => z))) rfl) (fx_w g12 (fun _ _ => bS_r) (fun _ _ _ => rfl))) rfl (f12) (l12))
    | false =>
      have db7 := of_decide_eq_false b7
      refine xq_n 61 [0, 1, 2] [(0, .ref 39), (1, .int (nI (tkn T n p))), (2, .int (nI (tks T n p)))] [.int (Int32.ofInt 1), .ref 39] (xh_ui h1 48 (fs.length - 1) (Int32.ofInt 1)) [false] 5 hq rfl ⟨rfl, trivial⟩ (fun hq => ?_)
      refine xq_run hq rfl rfl (bad_q (k := 1) hT (rtk_ui (t1) rfl) hq) ?_
      rintro v13 h13 ⟨rfl, g13, f13, l13⟩
      have hq := fx_q g13 hq
      rw [show (if rkk T n (tke T n p) = 1 then 1 else 1) = 1 by split <;> rfl] at f13
      have er : bi T n mem nn NW p o fs = .inr (1, tks T n (tke T n p)) := by
        unfold bi
        repeat (first | rw [if_pos (by omega)] | rw [if_neg (by omega)] | rw [if_pos b3] | rw [if_neg (by rw [b3]; decide)] | rw [if_pos b7] | rw [if_neg (by rw [b7]; decide)])
        try rfl
      exact xq_ret rfl rfl rfl (ou_r er (fx_t (fx_ui (fx_t (fx_0) (fx_w g1 (fun _ _ => gS_r) (fun _ _ z => z))) rfl) (fx_w g13 (fun _ _ => bS_r) (fun _ _ _ => rfl))) rfl (f13) (l13))
set_option maxRecDepth 100000 in
set_option maxHeartbeats 4000000 in
theorem bg_q {f p o ty : Nat} {fs : List Nat} {h : xh_H} (rr0 : rr h T n mem nn NW p o fs) (hty : fs.head? = some ty) (e47 : xg 0 h.2.1 47 (fs.length - 1) = nI ty) (ty2 : ty ≤ 2) (hq : a_rq a_tb h) : xq f xi_X10_begin xmi_X10_begin 0 [(0, .ref 39)] [] h (ou_Q h T n mem nn NW (bg T n mem nn NW p o fs)) := by
  have hT : ∀ k, k < n → T k < 256 := fun k hk' => (rr0.1.2.2 k hk').1
  have rt := rr0.2.1
  have rb := (rkk_k (T := T) (n := n) (p := p)).1
  have kb := tkk_lt (T := T) (n := n) (p := p) hT
  have o120 := rr0.2.2.2.2.2.2.1
  have f1 := rr0.2.2.2.2.2.2.2.2.1
  have n16 := rr0.2.2.2.2.1.2.1
  have f13 := rr0.2.2.2.2.2.2.2.2.2.1
  have n6 := rr0.1.2.1
  have hh : fs.head? = some 2 ↔ ty = 2 := by rw [hty]; exact ⟨fun e => Option.some.inj e, fun e => by rw [e]⟩
  cases c1 : xe_c .ne (nI ty) (Int32.ofInt 2) with
  | true =>
    have z1 : ty ≠ 2 := nq_net (a := ty) (b := 2) (by omega) (by omega) c1
    refine xq_n 27 [0] [(0, .ref 39)] [.ref 39] h [true] 10 hq rfl ⟨(show xe_c .ne (xg 0 h.2.1 47 ((xg 0 h.2.1 39 28).toNatClampNeg)) (Int32.ofInt 2) = true by rw [show (xg 0 h.2.1 47 ((xg 0 h.2.1 39 28).toNatClampNeg)) = (nI ty) from (by rw [show (xg 0 h.2.1 39 28) = (nI (fs.length - 1)) from rr0.2.2.2.2.2.2.2.1, show ((nI (fs.length - 1)).toNatClampNeg) = (fs.length - 1) from nI_clamp (by omega)]; exact e47)]; exact c1), trivial⟩ (fun hq => ?_)
    have er : bg T n mem nn NW p o fs = bo T n mem nn NW p o fs := by
      unfold bg
      first | rw [if_pos ⟨hh.mpr (by omega), by omega⟩] | rw [if_neg (by rintro ⟨e1, e2⟩; have := hh.mp e1; omega)]
    refine xq_run hq rfl rfl (bo_q rr0 hq) ?_
    rintro v2 h2 ⟨g2, l2, q2⟩
    have hq := fx_q g2 hq
    rw [er]
    have hv2 : ∃ x, v2 = some (.int x) := by
      cases hr2 : (bo T n mem nn NW p o fs) with
      | inl s => obtain ⟨a1, a2, a3, a4⟩ := s; exact ⟨1, (l2 _ _ _ _ hr2).1⟩
      | inr e => obtain ⟨a1, a2⟩ := e; exact ⟨0, (q2 _ _ hr2).1⟩
    obtain ⟨x2, rfl⟩ := hv2
    exact xq_ret rfl rfl rfl ⟨fx_t (fx_0) (g2), l2, q2⟩
  | false =>
    have z1 : ty = 2 := nq_nef (a := ty) (b := 2) (by omega) (by omega) c1
    cases c3 : xe_c .ne (nI (rkk T n p)) (Int32.ofInt 3) with
    | true =>
      have z3 : (rkk T n p) ≠ 3 := nq_net (a := (rkk T n p)) (b := 3) (by omega) (by omega) c3
      have yc3 := mt (rk3 (T := T) (n := n) (p := p)).mpr z3
      refine xq_n 27 [0] [(0, .ref 39)] [.ref 39] h [false, true] 14 hq rfl ⟨(show xe_c .ne (xg 0 h.2.1 47 ((xg 0 h.2.1 39 28).toNatClampNeg)) (Int32.ofInt 2) = false by rw [show (xg 0 h.2.1 47 ((xg 0 h.2.1 39 28).toNatClampNeg)) = (nI ty) from (by rw [show (xg 0 h.2.1 39 28) = (nI (fs.length - 1)) from rr0.2.2.2.2.2.2.2.1, show ((nI (fs.length - 1)).toNatClampNeg) = (fs.length - 1) from nI_clamp (by omega)]; exact e47)]; exact c1), (show xe_c .ne (xg 0 h.2.1 39 9) (Int32.ofInt 3) = true by rw [show (xg 0 h.2.1 39 9) = (nI (rkk T n p)) from rt.2.1]; exact c3), trivial⟩ (fun hq => ?_)
      have er : bg T n mem nn NW p o fs = bo T n mem nn NW p o fs := by
        unfold bg
        first | rw [if_pos ⟨hh.mpr (by omega), by omega⟩] | rw [if_neg (by rintro ⟨e1, e2⟩; have := hh.mp e1; omega)]
      refine xq_run hq rfl rfl (bo_q rr0 hq) ?_
      rintro v4 h4 ⟨g4, l4, q4⟩
      have hq := fx_q g4 hq
      rw [er]
      have hv4 : ∃ x, v4 = some (.int x) := by
        cases hr4 : (bo T n mem nn NW p o fs) with
        | inl s => obtain ⟨a1, a2, a3, a4⟩ := s; exact ⟨1, (l4 _ _ _ _ hr4).1⟩
        | inr e => obtain ⟨a1, a2⟩ := e; exact ⟨0, (q4 _ _ hr4).1⟩
      obtain ⟨x4, rfl⟩ := hv4
      exact xq_ret rfl rfl rfl ⟨fx_t (fx_0) (g4), l4, q4⟩
    | false =>
      have z3 : (rkk T n p) = 3 := nq_nef (a := (rkk T n p)) (b := 3) (by omega) (by omega) c3
      have yc3 := (rk3 (T := T) (n := n) (p := p)).mp z3
      refine xq_n 22 [0] [(0, .ref 39)] [.ref 39] h [false, false] 14 hq rfl ⟨(show xe_c .ne (xg 0 h.2.1 47 ((xg 0 h.2.1 39 28).toNatClampNeg)) (Int32.ofInt 2) = false by rw [show (xg 0 h.2.1 47 ((xg 0 h.2.1 39 28).toNatClampNeg)) = (nI ty) from (by rw [show (xg 0 h.2.1 39 28) = (nI (fs.length - 1)) from rr0.2.2.2.2.2.2.2.1, show ((nI (fs.length - 1)).toNatClampNeg) = (fs.length - 1) from nI_clamp (by omega)]; exact e47)]; exact c1), (show xe_c .ne (xg 0 h.2.1 39 9) (Int32.ofInt 3) = false by rw [show (xg 0 h.2.1 39 9) = (nI (rkk T n p)) from rt.2.1]; exact c3), trivial⟩ (fun hq => ?_)
      have er : bg T n mem nn NW p o fs = bi T n mem nn NW p o fs := by
        unfold bg
        first | rw [if_pos ⟨hh.mpr (by omega), by omega⟩] | rw [if_neg (by rintro ⟨e1, e2⟩; have := hh.mp e1; omega)]
      refine xq_run hq rfl rfl (bi_q rr0 (by omega) hq) ?_
      rintro v5 h5 ⟨g5, l5, q5⟩
      have hq := fx_q g5 hq
      rw [er]
      have hv5 : ∃ x, v5 = some (.int x) := by
        cases hr5 : (bi T n mem nn NW p o fs) with
        | inl s => obtain ⟨a1, a2, a3, a4⟩ := s; exact ⟨1, (l5 _ _ _ _ hr5).1⟩
        | inr e => obtain ⟨a1, a2⟩ := e; exact ⟨0, (q5 _ _ hr5).1⟩
      obtain ⟨x5, rfl⟩ := hv5
      exact xq_ret rfl rfl rfl ⟨fx_t (fx_0) (g5), l5, q5⟩
end XRG
