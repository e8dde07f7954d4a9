section XRJ
variable {T : Nat → Nat} {n mem nn : Nat} {NW : Nat → Nat}
/-- a rule is read: behind which token, with how many ones; or a fault -/
def RLq (T : Nat → Nat) (n mem nn : Nat) (NW : Nat → Nat) (p o : Nat) (q : Sum (Nat × Nat) (Nat × Nat)) : Prop := (∃ k pl, q = .inr (k, pl) ∧ Fl T n mem nn NW (1, tke T n p, o, [0]) (k, pl)) ∨ ∃ p' o', q = .inl (p', o') ∧ Rc T n mem nn NW (1, tke T n p, o, [0]) (0, p', o', [])
def rrl_Q (h0 : xh_H) (T : Nat → Nat) (n mem nn : Nat) (NW : Nat → Nat) (q : Sum (Nat × Nat) (Nat × Nat)) (v : Option Value) (h' : xh_H) : Prop := fx rT gL h0 h' ∧ (∀ p' o', q = .inl (p', o') → v = some (.int 1) ∧ rq0 h' T n mem nn NW p' o') ∧ ∀ k pl, q = .inr (k, pl) → v = some (.int 0) ∧ xg 0 h'.2.1 39 13 = nI k ∧ xg 0 h'.2.1 39 14 = nI pl
set_option maxRecDepth 100000 in
set_option maxHeartbeats 4000000 in
/-- X10.readRule -/
theorem rrl_q {f p o : Nat} {h : xh_H} {q : Sum (Nat × Nat) (Nat × Nat)} (hR : RLq T n mem nn NW p o q) (r0 : rq0 h T n mem nn NW p o) (nz : tkk T n p ≠ 0) (hq : a_rq a_tb h) : xq f xi_X10_readRule xmi_X10_readRule 0 [(0, .ref 39)] [] h (rrl_Q h T n mem nn NW q) := by
  obtain ⟨s1, s2, s3, s4, s5, s6, s7, s8⟩ := r0
  refine xq_n 12 [0] [(0, .ref 39)] [.int (Int32.ofInt 0), .ref 39] (xh_ui (xh_ui h 39 28 (Int32.ofInt 0)) 39 30 (Int32.ofInt 0)) [] 10 hq rfl trivial (fun _ => ?_)
  have hq : a_rq a_tb (xh_ui (xh_ui h 39 28 (Int32.ofInt 0)) 39 30 (Int32.ofInt 0)) := a_rq_ui (a_rq_ui hq)
  have g1 : fx rT gL h (xh_ui (xh_ui h 39 28 (Int32.ofInt 0)) 39 30 (Int32.ofInt 0)) := fx_ui (fx_ui fx_0 rfl) rfl
  refine xq_run hq rfl rfl (opr_q (t := 0) (ty := 0) (e := tke T n p) (by decide) (tke_le nz) hq (rtp_f s1 g1 rfl (fun _ => rfl)) ((gx_k (by decide)).trans ((gx_k (by decide)).trans (s2.2.2.2.2.2 nz))) ((gx_k (by decide)).trans gx_s)) ?_
  rintro v h2 ⟨rfl, g2, t2, y2, a2⟩
  have hq := fx_q g2 hq
  have g3 : fx rT gL h h2 := fx_t g1 (fx_w g2 (fun _ _ z => oS_r (rS_t z)) (fun _ _ z => z))
  have hrr : rr h2 T n mem nn NW (tke T n p) o [0] := ⟨rtp_f s1 g3 rfl (fun _ => rfl), t2, (fx_i g3 rfl).trans s3, s4, nms_f s5 g3 rfl (fun _ => rfl), (fx_i g2 rfl).trans ((gx_k (by decide)).trans ((gx_k (by decide)).trans s6)), s7, (fx_i g2 rfl).trans ((gx_k (by decide)).trans gx_s), by decide, by decide, ⟨y2, by decide, trivial⟩, (fx_i g2 rfl).trans ((gx_k (by decide)).trans ((gx_k (by decide)).trans s8))⟩
  have hls : lSt h h2 T n mem nn NW (1, tke T n p, o, [0]) := ⟨⟨g3, hrr, a2, (fx_i g2 rfl).trans gx_s⟩, rfl, Nat.le_refl _⟩
  rcases hR with ⟨k, pl, rfl, j, hj⟩ | ⟨p', o', rfl, j, hj⟩
  · refine xq_mono (rlp_q j f _ h2 (Or.inl ⟨k, pl, hj⟩) hls hq) (fun v h' ⟨q1, q2, q3⟩ => ⟨q1, fun _ _ e => (by cases e), fun _ _ e => ?_⟩)
    cases e
    exact q3 _ _ hj
  · refine xq_mono (rlp_q j f _ h2 (Or.inr ⟨0, p', o', hj⟩) hls hq) (fun v h' ⟨q1, q2, q3⟩ => ⟨q1, fun _ _ e => ?_, fun _ _ e => (by cases e)⟩)
    cases e
    exact q2 _ _ _ hj
/-- a body is read -/
def bq (w : Nat) (q : Sum (Nat × Nat) (Nat × Nat)) : Sum (Nat × Nat × Nat) (Nat × Nat) := match q with
  | .inl s => .inl (s.1, s.2, w)
  | .inr e => .inr e
def Bdy (T : Nat → Nat) (n mem nn : Nat) (NW : Nat → Nat) (p o : Nat) (r : Sum (Nat × Nat × Nat) (Nat × Nat)) : Prop := if nmt T n (tke T n p) = false then r = .inr (1, tks T n (tke T n p)) else if hasn nn NW (tkw T n (tke T n p)) = true then r = .inr (3, tks T n (tke T n p)) else if nn = 16 then r = .inr (4, tks T n (tke T n p)) else if tkk T n (tke T n (tke T n p)) ≠ 58 then r = .inr (1, tks T n (tke T n (tke T n p))) else ∃ q, RLq T n mem nn NW (tke T n (tke T n p)) o q ∧ r = bq (tkw T n (tke T n p)) q
def upN (NW : Nat → Nat) (nn w : Nat) : Nat → Nat := fun k => if k = nn then w else NW k
def rU (c k : Nat) : Bool := rT c k || ((Nat.beq c 39 && Nat.beq k 26) || Nat.beq c 43)
def rV (c k : Nat) : Bool := gL c k || Nat.beq c 50
theorem rT_u {c k : Nat} (h : rU c k = false) : rT c k = false := (or_f h).1
theorem gL_v {c k : Nat} (h : rV c k = false) : gL c k = false := (or_f h).1
theorem or_t {a b : Bool} (h : a = true) : (a || b) = true := by rw [h]; rfl
def bd_R (h0 : xh_H) (T : Nat → Nat) (n mem nn : Nat) (NW : Nat → Nat) (r : Sum (Nat × Nat × Nat) (Nat × Nat)) (v : Option Value) (h' : xh_H) : Prop := fx rU rV h0 h' ∧ (∀ p' o' w, r = .inl (p', o', w) → v = some (.int 1) ∧ rq0 h' T n mem (nn + 1) (upN NW nn w) p' o') ∧ ∀ k pl, r = .inr (k, pl) → v = some (.int 0) ∧ xg 0 h'.2.1 39 13 = nI k ∧ xg 0 h'.2.1 39 14 = nI pl
set_option maxRecDepth 100000 in
set_option maxHeartbeats 4000000 in
theorem bl_91 {h0 : xh_H} {Q : Option Value → xh_H → Prop} (K : ∀ (f : Nat) (x : Int32) (h : xh_H), a_rq a_tb h → fx (fun c _ => Nat.beq c 43) fN h0 h → xq f xi_X10_readBody xmi_X10_readBody 125 [(0, .ref 39), (3, .int x)] [] h Q) : ∀ (f : Nat) (x : Int32) (h : xh_H), a_rq a_tb h → fx (fun c _ => Nat.beq c 43) fN h0 h → xq f xi_X10_readBody xmi_X10_readBody 91 [(0, .ref 39), (3, .int x)] [] h Q := by
  intro f
  induction f with
  | zero => intros; exact xq_0
  | succ f ih =>
    intro x h hq g0
    cases c1 : xe_c .ge x 4096 with
    | true =>
      refine xq_m 125 [0, 3] [(0, .ref 39), (3, .int x)] [] h [true] 5 hq rfl ⟨c1, trivial⟩ (fun hq => ?_)
      exact K f _ _ hq g0
    | false =>
      refine xq_m 91 [0, 3] [(0, .ref 39), (3, .int (x + Int32.ofInt 1))] [] (xh_ui h 43 (((4096 * (xg 0 h.2.1 39 26)) + x).toNatClampNeg) (vp_nar .boolean (xg 0 h.2.1 45 x.toNatClampNeg))) [false] 20 hq rfl ⟨c1, trivial⟩ (fun _ => ?_)
      have hq : a_rq a_tb (xh_ui h 43 (((4096 * (xg 0 h.2.1 39 26)) + x).toNatClampNeg) (vp_nar .boolean (xg 0 h.2.1 45 x.toNatClampNeg))) := a_rq_ui hq
      exact ih _ _ hq (fx_t g0 (fx_ui (fx_0) rfl))
set_option maxRecDepth 100000 in
set_option maxHeartbeats 4000000 in
/-- X10.readBody -/
theorem rbd_q {f p o : Nat} {h : xh_H} {r : Sum (Nat × Nat × Nat) (Nat × Nat)} (hB : Bdy T n mem nn NW p o r) (r0 : rq0 h T n mem nn NW p o) (nz : tkk T n p ≠ 0) (hq : a_rq a_tb h) : xq f xi_X10_readBody xmi_X10_readBody 0 [(0, .ref 39)] [] h (bd_R h T n mem nn NW r) := by
  have hT : ∀ k, k < n → T k < 256 := fun k hk' => (r0.1.2.2 k hk').1
  have rt := r0.2.1
  have kb := tkk_lt (T := T) (n := n) (p := p) hT
  have n16 := r0.2.2.2.2.1.2.1
  have n6 := r0.1.2.1
  have o120 := r0.2.2.2.2.2.2.1
  refine xq_n 1 [0] [(0, .ref 39)] [.ref 39] h [] 3 hq rfl trivial (fun hq => ?_)
  have nz1 : tkk T n p ≠ 0 := by omega
  have le1 := tke_le nz1
  refine xq_run hq rfl rfl (go_q hq (r0.1) (rt.2.2.2.2.2 (by omega)) le1) ?_
  rintro v1 h1 ⟨rfl, g1, t1⟩
  have hq := fx_q g1 hq
  have rb1 := (rkk_k (T := T) (n := n) (p := tke T n p)).1
  have kb1 := tkk_lt (T := T) (n := n) (p := tke T n p) hT
  refine xq_n 5 [0] [(0, .ref 39)] [.ref 39] h1 [] 3 hq rfl trivial (fun hq => ?_)
  refine xq_run hq rfl rfl (rnm_q hT (t1) hq) ?_
  rintro v2 h_v2 ⟨rfl, rfl⟩
  cases b3 : (nmt T n (tke T n p)) with
  | true =>
    have db3 := of_decide_eq_true b3
    refine xq_n 18 [0] [(0, .ref 39)] [.ref 39] h1 [true] 4 hq rfl ⟨rfl, trivial⟩ (fun hq => ?_)
    refine xq_run hq rfl rfl (nh_q (nms_f (S := rT) (L := gL) r0.2.2.2.2.1 (fx_t (fx_0) (fx_w g1 (fun _ _ z => gS_r (rS_t z)) (fun _ _ z => z))) rfl (fun _ => rfl)) ((t1.2.2.1 (by omega)).2) (tkw_lt (by omega)) hq) ?_
    rintro v4 h_4 ⟨rfl, ⟨rfl, hn4⟩ | ⟨kk4, kl4, rfl, -, hn4⟩⟩
    · skip
      cases c5 : xe_c .ne (nI nn) 16 with
      | true =>
        have z5 : nn ≠ 16 := nq_net (a := nn) (b := 16) (by omega) (by omega) c5
        refine xq_n 52 [0, 1] [(0, .ref 39), (1, .long (xg 0 h1.2.2.1 39 15))] [.ref 39] h1 [true, true] 12 hq rfl ⟨(by decide), (show xe_c .ne (xg 0 h1.2.1 39 26) 16 = true by rw [show (xg 0 h1.2.1 39 26) = (nI nn) from (fx_i g1 rfl).trans (r0.2.2.2.2.1.1)]; exact c5), trivial⟩ (fun hq => ?_)
        rw [show (xg 0 h1.2.2.1 39 15) = (Int64.ofNat (tkw T n (tke T n p))) from (t1.2.2.1 (by omega)).2]
        have nz6 : tkk T n (tke T n p) ≠ 0 := by omega
        have le6 := tke_le nz6
        refine xq_run hq rfl rfl (go_q hq (rtp_f (S := rT) (L := gL) r0.1 (fx_t (fx_0) (fx_w g1 (fun _ _ z => gS_r (rS_t z)) (fun _ _ z => z))) rfl (fun _ => rfl)) (t1.2.2.2.2.2 (by omega)) le6) ?_
        rintro v6 h6 ⟨rfl, g6, t6⟩
        have hq := fx_q g6 hq
        have rb6 := (rkk_k (T := T) (n := n) (p := tke T n (tke T n p))).1
        have kb6 := tkk_lt (T := T) (n := n) (p := tke T n (tke T n p)) hT
        refine xq_n 58 [0, 1] [(0, .ref 39), (1, .long (Int64.ofNat (tkw T n (tke T n p))))] [.int 58, .ref 39] h6 [] 4 hq rfl trivial (fun hq => ?_)
        refine xq_run hq rfl rfl (rsg_q (c := 58) (by decide) (by decide) hT (t6) hq) ?_
        rintro v7 h_v7 ⟨rfl, rfl⟩
        cases b8 : (decide (tkk T n (tke T n (tke T n p)) = 58)) with
        | true =>
          have db8 := of_decide_eq_true b8
          refine xq_n 71 [0, 1] [(0, .ref 39), (1, .long (Int64.ofNat (tkw T n (tke T n p))))] [.ref 39] h6 [true] 4 hq rfl ⟨rfl, trivial⟩ (fun hq => ?_)
          have hE : ∃ q, RLq T n mem nn NW (tke T n (tke T n p)) o q ∧ r = bq (tkw T n (tke T n p)) q := by
            have e := hB
            unfold Bdy at e
            repeat (first | rw [if_pos (by omega)] at e | rw [if_neg (by omega)] at e | rw [if_pos b3] at e | rw [if_neg (by rw [b3]; decide)] at e | rw [if_pos b8] at e | rw [if_neg (by rw [b8]; decide)] at e | rw [if_pos hn4] at e | rw [if_neg (by rw [hn4]; decide)] at e)
            exact e
          obtain ⟨q, hR, er⟩ := hE
          have gA : fx rT gL h h6 := fx_t (fx_t (fx_0) (fx_w g1 (fun _ _ z => gS_r (rS_t z)) (fun _ _ z => z))) (fx_w g6 (fun _ _ z => gS_r (rS_t z)) (fun _ _ z => z))
          refine xq_run hq rfl rfl (rrl_q hR ⟨rtp_f (S := rT) (L := gL) r0.1 (fx_t (fx_t (fx_0) (fx_w g1 (fun _ _ z => gS_r (rS_t z)) (fun _ _ z => z))) (fx_w g6 (fun _ _ z => gS_r (rS_t z)) (fun _ _ z => z))) rfl (fun _ => rfl), t6, (fx_i g6 rfl).trans ((fx_i g1 rfl).trans (r0.2.2.1)), r0.2.2.2.1, nms_f (S := rT) (L := gL) r0.2.2.2.2.1 (fx_t (fx_t (fx_0) (fx_w g1 (fun _ _ z => gS_r (rS_t z)) (fun _ _ z => z))) (fx_w g6 (fun _ _ z => gS_r (rS_t z)) (fun _ _ z => z))) rfl (fun _ => rfl), (fx_i g6 rfl).trans ((fx_i g1 rfl).trans (r0.2.2.2.2.2.1)), r0.2.2.2.2.2.2.1, (fx_i g6 rfl).trans ((fx_i g1 rfl).trans (r0.2.2.2.2.2.2.2))⟩ (by omega) hq) ?_
          rintro v h9 ⟨g9, q1, q2⟩
          have hq := fx_q g9 hq
          have gB : fx rT gL h h9 := fx_t gA g9
          cases q with
          | inr e =>
            obtain ⟨k, pl⟩ := e
            obtain ⟨rfl, f1, f2⟩ := q2 _ _ rfl
            refine xq_n 78 [] [] [.int (Int32.ofInt 0)] h9 [false] 4 hq rfl ⟨rfl, trivial⟩ (fun hq => ?_)
            refine xq_ret rfl rfl rfl ⟨fx_w gB (fun _ _ => rT_u) (fun _ _ => gL_v), fun _ _ _ e => (by rw [er] at e; cases e), fun _ _ e => ?_⟩
            rw [er] at e
            cases e
            exact ⟨rfl, f1, f2⟩
          | inl s =>
            obtain ⟨p', o'⟩ := s
            obtain ⟨rfl, r9⟩ := q1 _ _ rfl
            have e26 := r9.2.2.2.2.1.1
            refine xq_n 91 [0, 3] [(0, .ref 39), (3, .int (Int32.ofInt 0))] [] (xh_ul h9 50 (xg 0 h9.2.1 39 26).toNatClampNeg (Int64.ofNat (tkw T n (tke T n p)))) [true] 11 hq rfl ⟨rfl, trivial⟩ (fun _ => ?_)
            rw [e26, show (nI nn).toNatClampNeg = nn from nI_clamp (by omega)]
            have hq : a_rq a_tb (xh_ul h9 50 nn (Int64.ofNat (tkw T n (tke T n p)))) := a_rq_ul hq
            refine bl_91 (fun f x h3 hq g3 => ?_) f _ _ hq fx_0
            refine xq_n 136 [] [] [.int (Int32.ofInt 1)] (xh_ui h3 39 26 ((xg 0 h3.2.1 39 26) + (Int32.ofInt 1))) [] 9 hq rfl trivial (fun _ => ?_)
            have f26 : xg 0 h3.2.1 39 26 = nI nn := (fx_i g3 rfl).trans e26
            rw [f26, show nI nn + Int32.ofInt 1 = nI (nn + 1) from nI_1 _]
            have gC : fx rU rV h (xh_ui h3 39 26 (nI (nn + 1))) := fx_ui (fx_t (fx_t (fx_w gB (fun _ _ => rT_u) (fun _ _ => gL_v)) (fx_ul fx_0 rfl)) (fx_w g3 (fun c k z => by have := (or_f (or_f z).2).2; exact this) (fun _ _ _ => rfl))) rfl
            refine xq_ret rfl rfl rfl ⟨gC, fun _ _ _ e => ?_, fun _ _ e => (by rw [er] at e; cases e)⟩
            rw [er] at e
            cases e
            obtain ⟨s1, s2, s3, s4, s5, s6, s7, s8⟩ := r9
            have g4 : fx (fun c k => Nat.beq c 43 || (Nat.beq c 39 && Nat.beq k 26)) rV h9 (xh_ui h3 39 26 (nI (nn + 1))) := fx_ui (fx_t (fx_ul fx_0 rfl) (fx_w g3 (fun _ _ z => (or_f z).1) (fun _ _ _ => rfl))) rfl
            have lq : ∀ k, xg 0 (xh_ui h3 39 26 (nI (nn + 1))).2.2.1 50 k = xg 0 (xh_ul h9 50 nn (Int64.ofNat (tkw T n (tke T n p)))).2.2.1 50 k := fun k => (show xg 0 h3.2.2.1 50 k = xg 0 (xh_ul h9 50 nn (Int64.ofNat (tkw T n (tke T n p)))).2.2.1 50 k from fx_l (c := 50) (k := k) g3 rfl)
            have l15 : xg 0 (xh_ui h3 39 26 (nI (nn + 1))).2.2.1 39 15 = xg 0 h9.2.2.1 39 15 := (fx_l (c := 39) (k := 15) g3 rfl).trans (gl_o (by decide))
            refine ⟨rfl, rtp_f s1 g4 rfl (fun _ => rfl), ?_, (fx_i g4 rfl).trans s3, s4, ⟨gx_s, by omega, fun k hk' => ?_⟩, (fx_i g4 rfl).trans s6, s7, (fx_i g4 rfl).trans s8⟩
            · have q : ∀ j, 7 ≤ j → j ≤ 12 → xg 0 (xh_ui h3 39 26 (nI (nn + 1))).2.1 39 j = xg 0 h9.2.1 39 j := fun j j1 j2 => fx_i g4 (by rw [show Nat.beq j 26 = false from by rw [Bool.eq_false_iff]; intro z; have := Nat.eq_of_beq_eq_true z; omega]; rfl)
              obtain ⟨r1, r2, r3, r4, r5, r6⟩ := s2
              exact ⟨by rw [q 8 (by decide) (by decide)]; exact r1, by rw [q 9 (by decide) (by decide)]; exact r2, fun z => ⟨by rw [q 12 (by decide) (by decide)]; exact (r3 z).1, l15.trans (r3 z).2⟩, fun z => by rw [q 10 (by decide) (by decide)]; exact r4 z, fun z => by rw [q 11 (by decide) (by decide)]; exact r5 z, fun z => by rw [q 7 (by decide) (by decide)]; exact r6 z⟩
            · unfold upN
              by_cases ek : k = nn
              · rw [if_pos ek]
                refine ⟨tkw_lt (by omega), ?_⟩
                rw [lq, ek]
                exact gl_s
              · rw [if_neg ek]
                refine ⟨(s5.2.2 k (by omega)).1, ?_⟩
                rw [lq, gl_k ek]
                exact (s5.2.2 k (by omega)).2
        | false =>
          have db8 := of_decide_eq_false b8
          refine xq_n 66 [0, 1] [(0, .ref 39), (1, .long (Int64.ofNat (tkw T n (tke T n p))))] [.int (Int32.ofInt 1), .ref 39] h6 [false] 5 hq rfl ⟨rfl, trivial⟩ (fun hq => ?_)
          refine xq_run hq rfl rfl (bad_q (k := 1) hT (t6) hq) ?_
          rintro v9 h9 ⟨rfl, g9, f9, l9⟩
          have hq := fx_q g9 hq
          rw [show (if rkk T n (tke T n (tke T n p)) = 1 then 1 else 1) = 1 by split <;> rfl] at f9
          have er : r = .inr (1, tks T n (tke T n (tke T n p))) := by
            have e := hB
            unfold Bdy at e
            repeat (first | rw [if_pos (by omega)] at e | rw [if_neg (by omega)] at e | rw [if_pos b3] at e | rw [if_neg (by rw [b3]; decide)] at e | rw [if_pos b8] at e | rw [if_neg (by rw [b8]; decide)] at e | rw [if_pos hn4] at e | rw [if_neg (by rw [hn4]; decide)] at e)
            exact e
          refine xq_ret rfl rfl rfl ⟨fx_w (fx_t (fx_t (fx_t (fx_0) (fx_w g1 (fun _ _ z => gS_r (rS_t z)) (fun _ _ z => z))) (fx_w g6 (fun _ _ z => gS_r (rS_t z)) (fun _ _ z => z))) (fx_w g9 (fun _ _ z => bS_r (rS_t z)) (fun _ _ _ => rfl))) (fun _ _ => rT_u) (fun _ _ => gL_v), fun _ _ _ e => (by rw [er] at e; cases e), fun _ _ e => ?_⟩
          rw [er] at e
          cases e
          exact ⟨rfl, f9, l9⟩
      | false =>
        have z5 : nn = 16 := nq_nef (a := nn) (b := 16) (by omega) (by omega) c5
        refine xq_n 42 [0] [(0, .ref 39)] [.int (Int32.ofInt 4), .ref 39] h1 [true, false] 10 hq rfl ⟨(by decide), (show xe_c .ne (xg 0 h1.2.1 39 26) 16 = false by rw [show (xg 0 h1.2.1 39 26) = (nI nn) from (fx_i g1 rfl).trans (r0.2.2.2.2.1.1)]; exact c5), trivial⟩ (fun hq => ?_)
        refine xq_run hq rfl rfl (bad_q (k := 4) hT (t1) hq) ?_
        rintro v10 h10 ⟨rfl, g10, f10, l10⟩
        have hq := fx_q g10 hq
        rw [if_neg (show ¬ rkk T n (tke T n p) = 1 from fun e => by have e1 := rk1.mp e; omega)] at f10
        have er : r = .inr (4, tks T n (tke T n p)) := by
          have e := hB
          unfold Bdy at e
          repeat (first | rw [if_pos (by omega)] at e | rw [if_neg (by omega)] at e | rw [if_pos b3] at e | rw [if_neg (by rw [b3]; decide)] at e | rw [if_pos hn4] at e | rw [if_neg (by rw [hn4]; decide)] at e)
          exact e
        refine xq_ret rfl rfl rfl ⟨fx_w (fx_t (fx_t (fx_0) (fx_w g1 (fun _ _ z => gS_r (rS_t z)) (fun _ _ z => z))) (fx_w g10 (fun _ _ z => bS_r (rS_t z)) (fun _ _ _ => rfl))) (fun _ _ => rT_u) (fun _ _ => gL_v), fun _ _ _ e => (by rw [er] at e; cases e), fun _ _ e => ?_⟩
        rw [er] at e
        cases e
        exact ⟨rfl, f10, l10⟩
    · skip
      cases c11 : xe_c .eq (nI kk4) (Int32.ofInt (-1)) with
      | true =>
        exact absurd (of_decide_eq_true c11) (nIm1 (by omega))
      | false =>
        refine xq_n 27 [0] [(0, .ref 39)] [.int (Int32.ofInt 3), .ref 39] h1 [false] 6 hq rfl ⟨c11, trivial⟩ (fun hq => ?_)
        refine xq_run hq rfl rfl (bad_q (k := 3) hT (t1) hq) ?_
        rintro v12 h12 ⟨rfl, g12, f12, l12⟩
        have hq := fx_q g12 hq
        rw [if_neg (show ¬ rkk T n (tke T n p) = 1 from fun e => by have e1 := rk1.mp e; omega)] at f12
        have er : r = .inr (3, tks T n (tke T n p)) := by
          have e := hB
          unfold Bdy at e
          repeat (first | rw [if_pos (by omega)] at e | rw [if_neg (by omega)] at e | rw [if_pos b3] at e | rw [if_neg (by rw [b3]; decide)] at e | rw [if_pos hn4] at e | rw [if_neg (by rw [hn4]; decide)] at e)
          exact e
        refine xq_ret rfl rfl rfl ⟨fx_w (fx_t (fx_t (fx_0) (fx_w g1 (fun _ _ z => gS_r (rS_t z)) (fun _ _ z => z))) (fx_w g12 (fun _ _ z => bS_r (rS_t z)) (fun _ _ _ => rfl))) (fun _ _ => rT_u) (fun _ _ => gL_v), fun _ _ _ e => (by rw [er] at e; cases e), fun _ _ e => ?_⟩
        rw [er] at e
        cases e
        exact ⟨rfl, f12, l12⟩
  | false =>
    have db3 := of_decide_eq_false b3
    refine xq_n 13 [0] [(0, .ref 39)] [.int (Int32.ofInt 1), .ref 39] h1 [false] 5 hq rfl ⟨rfl, trivial⟩ (fun hq => ?_)
    refine xq_run hq rfl rfl (bad_q (k := 1) hT (t1) hq) ?_
    rintro v13 h13 ⟨rfl, g13, f13, l13⟩
    have hq := fx_q g13 hq
    rw [show (if rkk T n (tke T n p) = 1 then 1 else 1) = 1 by split <;> rfl] at f13
    have er : r = .inr (1, tks T n (tke T n p)) := by
      have e := hB
      unfold Bdy at e
      repeat (first | rw [if_pos (by omega)] at e | rw [if_neg (by omega)] at e | rw [if_pos b3] at e | rw [if_neg (by rw [b3]; decide)] at e)
      exact e
    refine xq_ret rfl rfl rfl ⟨fx_w (fx_t (fx_t (fx_0) (fx_w g1 (fun _ _ z => gS_r (rS_t z)) (fun _ _ z => z))) (fx_w g13 (fun _ _ z => bS_r (rS_t z)) (fun _ _ _ => rfl))) (fun _ _ => rT_u) (fun _ _ => gL_v), fun _ _ _ e => (by rw [er] at e; cases e), fun _ _ e => ?_⟩
    rw [er] at e
    cases e
    exact ⟨rfl, f13, l13⟩
end XRJ
