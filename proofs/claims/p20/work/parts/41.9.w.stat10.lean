section XDW
variable {T : Nat → Nat} {n mem nn : Nat} {NW : Nat → Nat}
theorem vis_d {sv : Nat} {NV : Nat → Bool} {aw p o : Nat} {x : List vF × Bool} : ∀ k, vis T n nn NW sv NV mem k (aw, p, o, []) x = x := by
  intro k
  induction k with
  | zero => rfl
  | succ k ih =>
    show (match stp T n mem nn NW (aw, p, o, []) with
      | .inl s' => vis T n nn NW sv NV mem k s' (vdt T n nn NW sv NV (aw, p, o, []) x)
      | .inr _ => x) = x
    rw [show stp T n mem nn NW (aw, p, o, []) = .inl (aw, p, o, []) from if_pos rfl, show vdt T n nn NW sv NV (aw, p, o, []) x = x from if_pos rfl]
    exact ih
set_option maxRecDepth 100000 in
set_option maxHeartbeats 4000000 in
/-- the reference's loop does what the automaton does -/
theorem rlp_d {h0 : xh_H} {sv : Nat} {NV : Nat → Bool} (s4 : sv < 4096) : ∀ (k f : Nat) (s : aSt) (x : List vF × Bool) (h : xh_H), (∃ aw p o, its T n mem nn NW k s = .inl (aw, p, o, [])) → lSt h0 h T n mem nn NW s → dfr h sv s.2.2.2 x.1 → xg 0 h.2.1 45 sv = bl x.2 → dnm h sv nn NV → a_rq a_tb h → xq f xi_X10_readRule xmi_X10_readRule 15 [(0, .ref 39)] [] h (fun v h' => xg 0 h'.2.1 45 sv = bl (vis T n nn NW sv NV mem k s x).2 ∧ dnm h' sv nn NV) := by
  intro k
  induction k with
  | zero =>
    intro f s x h he ls dd d45 dn hq
    obtain ⟨aw, p, o, e⟩ := he
    have e : s = (aw, p, o, []) := Sum.inl.inj e
    subst e
    exact absurd rfl (wfs_n ls.2.1)
  | succ k ih =>
    intro f s x h he ls dd d45 dn hq
    obtain ⟨aw, p, o, fs⟩ := s
    obtain ⟨x1, x2⟩ := x
    have dd : dfr h sv fs x1 := dd
    have d45 : xg 0 h.2.1 45 sv = bl x2 := d45
    have ev : vis T n nn NW sv NV mem (k + 1) (aw, p, o, fs) (x1, x2) = (match stp T n mem nn NW (aw, p, o, fs) with
      | .inl s' => vis T n nn NW sv NV mem k s' (vdt T n nn NW sv NV (aw, p, o, fs) (x1, x2))
      | .inr _ => (x1, x2)) := rfl
    obtain ⟨gi, wf, aw1⟩ := ls
    have gi : GI h0 h T n mem nn NW p o fs aw := gi
    have wf : wfs fs := wf
    have aw1 : aw ≤ 1 := aw1
    have es : its T n mem nn NW (k + 1) (aw, p, o, fs) = (match stp T n mem nn NW (aw, p, o, fs) with
      | .inl s' => its T n mem nn NW k s'
      | .inr e => .inr e) := rfl
    rw [stp_n (s := (aw, p, o, fs)) (wfs_n wf)] at es ev
    have hd : vdt T n nn NW sv NV (aw, p, o, fs) (x1, x2) = if aw = 1 then vbg T n nn NW sv NV p fs x1 x2 else ven T n p fs x1 x2 := if_neg (wfs_n wf)
    rw [hd] at ev
    obtain ⟨ty, hty, e47, ty2⟩ := frs_h gi.2.1.2.2.2.2.2.2.2.2.2.2.1 wf
    have e30 := gi.2.2.2
    have e29 := gi.2.2.1
    by_cases ha : aw = 1
    · subst ha
      have es : its T n mem nn NW (k + 1) (1, p, o, fs) = (match bg T n mem nn NW p o fs with
        | .inl s' => its T n mem nn NW k s'
        | .inr e => .inr e) := es
      have ev : vis T n nn NW sv NV mem (k + 1) (1, p, o, fs) (x1, x2) = (match bg T n mem nn NW p o fs with
        | .inl s' => vis T n nn NW sv NV mem k s' (vbg T n nn NW sv NV p fs x1 x2)
        | .inr _ => (x1, x2)) := ev
      refine xq_n 30 [0] [(0, .ref 39)] [.ref 39] h [false, false] 9 hq rfl ⟨(show xe_c .ne (xg 0 h.2.1 39 30) 0 = false by rw [e30]; rfl), (show xe_c .eq (xg 0 h.2.1 39 29) 0 = false by rw [e29]; rfl), trivial⟩ (fun hq => ?_)
      refine xq_run hq rfl rfl (xq_and (bg_q gi.2.1 hty e47 ty2 hq) (bg_d s4 dd d45 dn gi.2.1 hty e47 ty2 hq)) ?_
      rintro v h1 ⟨⟨g1, q1, q2⟩, qd⟩
      have dn1 : dnm h1 sv nn NV := dnm_f dn g1 (fun _ => rfl)
      have hq := fx_q g1 hq
      have gt : fx rT gL h0 h1 := fx_t gi.1 (fx_w g1 (fun _ _ z => rS_t z) (fun _ _ z => z))
      cases hr : bg T n mem nn NW p o fs with
      | inl s' =>
        obtain ⟨aw', p', o', fs'⟩ := s'
        obtain ⟨rfl, r1, r2⟩ := q1 _ _ _ _ hr
        rw [hr] at es
        have es : its T n mem nn NW (k + 1) (1, p, o, fs) = its T n mem nn NW k (aw', p', o', fs') := es
        rw [es] at he
        rw [hr] at ev
        have ev : vis T n nn NW sv NV mem (k + 1) (1, p, o, fs) (x1, x2) = vis T n nn NW sv NV mem k (aw', p', o', fs') (vbg T n nn NW sv NV p fs x1 x2) := ev
        rw [ev]
        obtain ⟨e1, e2⟩ := qd _ _ _ _ hr
        refine xq_n 15 [0] [(0, .ref 39)] [] h1 [false] 4 hq rfl ⟨rfl, trivial⟩ (fun hq => ?_)
        obtain ⟨w1, w2⟩ := bg_w wf hr
        exact ih f _ _ h1 he ⟨⟨gt, r1, r2, (fx_i g1 rfl).trans e30⟩, w1, w2⟩ e1 e2 dn1 hq
      | inr e =>
        rw [hr] at es
        obtain ⟨_, _, _, he⟩ := he
        rw [es] at he
        cases he
    · have ha0 : aw = 0 := by omega
      subst ha0
      have es : its T n mem nn NW (k + 1) (0, p, o, fs) = (match en T n p o fs with
        | .inl s' => its T n mem nn NW k s'
        | .inr e => .inr e) := es
      have ev : vis T n nn NW sv NV mem (k + 1) (0, p, o, fs) (x1, x2) = (match en T n p o fs with
        | .inl s' => vis T n nn NW sv NV mem k s' (ven T n p fs x1 x2)
        | .inr _ => (x1, x2)) := ev
      refine xq_n 40 [0] [(0, .ref 39)] [.ref 39] h [false, true] 9 hq rfl ⟨(show xe_c .ne (xg 0 h.2.1 39 30) 0 = false by rw [e30]; rfl), (show xe_c .eq (xg 0 h.2.1 39 29) 0 = true by rw [e29]; rfl), trivial⟩ (fun hq => ?_)
      refine xq_run hq rfl rfl (xq_and (xq_and (en_q hq gi wf hty e47 ty2) (en_q (h0 := h) hq ⟨fx_0, gi.2⟩ wf hty e47 ty2)) (en_dd s4 dd d45 hq gi wf hty e47 ty2)) ?_
      rintro v h1 ⟨⟨⟨g1, q1, q2, q3⟩, g1', -⟩, qd⟩
      have dn1 : dnm h1 sv nn NV := dnm_f dn g1' (fun _ => rfl)
      have hq : a_rq a_tb h1 := fx_q (fx_t (fx_0 (S := rT) (L := gL)) g1) (a_rq_h0 gi.1 hq)
      cases hr : en T n p o fs with
      | inl s' =>
        obtain ⟨aw', p', o', fs'⟩ := s'
        rw [hr] at es
        have es : its T n mem nn NW (k + 1) (0, p, o, fs) = its T n mem nn NW k (aw', p', o', fs') := es
        rw [hr] at ev
        have ev : vis T n nn NW sv NV mem (k + 1) (0, p, o, fs) (x1, x2) = vis T n nn NW sv NV mem k (aw', p', o', fs') (ven T n p fs x1 x2) := ev
        rw [ev]
        obtain ⟨e1, e2⟩ := qd _ _ _ _ hr
        by_cases hn : fs' = []
        · subst hn
          rw [vis_d]
          obtain ⟨rfl, r1, r2⟩ := q2 _ _ _ hr
          have ep : p' = tke T n p ∧ o' = o ∧ tkk T n p = 59 := en_e wf hr
          refine xq_n 15 [0] [(0, .ref 39)] [] h1 [true] 3 hq rfl ⟨rfl, trivial⟩ (fun hq => ?_)
          refine xq_n 49 [0] [(0, .ref 39)] [.ref 39] h1 [true] 6 hq rfl ⟨(show xe_c .ne (xg 0 h1.2.1 39 30) 0 = true by rw [r1]; rfl), trivial⟩ (fun hq => ?_)
          obtain ⟨s1, s2, s3, s4, s5, s6, s7, s8⟩ := r2
          have nz : tkk T n p ≠ 0 := by omega
          refine xq_run hq rfl rfl (go_q hq s1 (s2.2.2.2.2.2 nz) (tke_le nz)) ?_
          rintro v h2 ⟨rfl, g2, t2⟩
          have hq := fx_q g2 hq
          refine xq_n 53 [] [] [.int (Int32.ofInt 1)] h2 [] 3 hq rfl trivial (fun hq => ?_)
          exact xq_ret rfl rfl rfl ⟨(fx_i g2 rfl).trans e2, dnm_f dn1 g2 (fun _ => rfl)⟩
        · obtain ⟨rfl, r1, r2, r3⟩ := q1 _ _ _ _ hr hn
          rw [es] at he
          refine xq_n 15 [0] [(0, .ref 39)] [] h1 [true] 3 hq rfl ⟨rfl, trivial⟩ (fun hq => ?_)
          obtain ⟨w1, w2⟩ := en_w wf hr hn
          exact ih f _ _ h1 he ⟨⟨g1, r1, r2, r3⟩, w1, w2⟩ e1 e2 dn1 hq
      | inr e =>
        rw [hr] at es
        obtain ⟨_, _, _, he⟩ := he
        rw [es] at he
        cases he
set_option maxRecDepth 100000 in
set_option maxHeartbeats 4000000 in
/-- X10.readRule -/
theorem rrl_d {f p o p' o' sv : Nat} {NV : Nat → Bool} {y one0 : Bool} {h : xh_H} (hs : sv < 4096) (hR : ∀ one, Rv T n nn NW sv NV mem (1, tke T n p, o, [0]) ([vR], one) (0, p', o', []) ([], y)) (dn : dnm h sv nn NV) (d45 : xg 0 h.2.1 45 sv = bl one0) (r0 : rq0 h T n mem nn NW p o) (nz : tkk T n p ≠ 0) (hq : a_rq a_tb h) : xq f xi_X10_readRule xmi_X10_readRule 0 [(0, .ref 39)] [] h (fun v h' => xg 0 h'.2.1 45 sv = bl y ∧ dnm h' sv nn NV) := by
  obtain ⟨s1, s2, s3, s4, s5, s6, s7, s8⟩ := r0
  refine xq_n 12 [0] [(0, .ref 39)] [.int (Int32.ofInt 0), .ref 39] (xh_ui (xh_ui h 39 28 (Int32.ofInt 0)) 39 30 (Int32.ofInt 0)) [] 10 hq rfl trivial (fun _ => ?_)
  have hq : a_rq a_tb (xh_ui (xh_ui h 39 28 (Int32.ofInt 0)) 39 30 (Int32.ofInt 0)) := a_rq_ui (a_rq_ui hq)
  have g1 : fx rT gL h (xh_ui (xh_ui h 39 28 (Int32.ofInt 0)) 39 30 (Int32.ofInt 0)) := fx_ui (fx_ui fx_0 rfl) rfl
  refine xq_run hq rfl rfl (xq_and (opr_q (t := 0) (ty := 0) (e := tke T n p) (by decide) (tke_le nz) hq (rtp_f s1 g1 rfl (fun _ => rfl)) ((gx_k (by decide)).trans ((gx_k (by decide)).trans (s2.2.2.2.2.2 nz))) ((gx_k (by decide)).trans gx_s)) (opr_d (t := 0) (e := tke T n p) hs (by decide) (tke_le nz) hq (rtp_f s1 g1 rfl (fun _ => rfl)) ((gx_k (by decide)).trans ((gx_k (by decide)).trans (s2.2.2.2.2.2 nz))) ((gx_k (by decide)).trans gx_s))) ?_
  rintro v h2 ⟨⟨rfl, g2, t2, y2, a2⟩, dg2, k1, k2⟩
  have hq := fx_q g2 hq
  have g3 : fx rT gL h h2 := fx_t g1 (fx_w g2 (fun _ _ z => oS_r (rS_t z)) (fun _ _ z => z))
  have hrr : rr h2 T n mem nn NW (tke T n p) o [0] := ⟨rtp_f s1 g3 rfl (fun _ => rfl), t2, (fx_i g3 rfl).trans s3, s4, nms_f s5 g3 rfl (fun _ => rfl), (fx_i g2 rfl).trans ((gx_k (by decide)).trans ((gx_k (by decide)).trans s6)), s7, (fx_i g2 rfl).trans ((gx_k (by decide)).trans gx_s), by decide, by decide, ⟨y2, by decide, trivial⟩, (fx_i g2 rfl).trans ((gx_k (by decide)).trans ((gx_k (by decide)).trans s8))⟩
  have hls : lSt h h2 T n mem nn NW (1, tke T n p, o, [0]) := ⟨⟨g3, hrr, a2, (fx_i g2 rfl).trans gx_s⟩, rfl, Nat.le_refl _⟩
  obtain ⟨j, hj, hv⟩ := hR one0
  have dd : dfr h2 sv [0] [vR] := ⟨fun z => absurd z (by decide), fun _ => ⟨k1, k2⟩, trivial⟩
  have e45 : xg 0 h2.2.1 45 sv = bl one0 := (fx_i dg2 rfl).trans ((gx_o (by decide)).trans ((gx_o (by decide)).trans d45))
  refine xq_mono (rlp_d hs j f _ ([vR], one0) h2 ⟨0, p', o', hj⟩ hls dd e45 (dnm_f dn g3 (fun _ => rfl)) hq) (fun v h' e => ?_)
  rw [hv] at e
  exact e
def F43 (m c k : Nat) : Bool := Nat.beq c 43 && Nat.ble (4096 * m) k
def F44 (m c k : Nat) : Bool := Nat.beq c 44 && Nat.ble (4096 * m) k
set_option maxRecDepth 100000 in
set_option maxHeartbeats 4000000 in
theorem bld_91 {hb : xh_H} {sv nn : Nat} {z45 z : Int32} {Q : Option Value → xh_H → Prop} (s4 : sv < 4096) (m16 : nn ≤ 16) (eb : xg 0 hb.2.1 39 26 = nI nn) (b45 : xg 0 hb.2.1 45 sv = z45) (K : ∀ (f : Nat) (x : Int32) (h : xh_H), a_rq a_tb h → fx (F43 nn) fN hb h → xg 0 h.2.1 43 (4096 * nn + sv) = vp_nar .boolean z45 → xq f xi_X10_readBody xmi_X10_readBody 125 [(0, .ref 39), (3, .int x)] [] h Q) : ∀ (f i : Nat) (h : xh_H), a_rq a_tb h → fx (F43 nn) fN hb h → i ≤ 4096 → xg 0 h.2.1 43 (4096 * nn + sv) = (if sv < i then vp_nar .boolean z45 else z) → xq f xi_X10_readBody xmi_X10_readBody 91 [(0, .ref 39), (3, .int (nI i))] [] h Q := by
  intro f
  induction f with
  | zero => intros; exact xq_0
  | succ f ih =>
    intro i h hq ge i6 w
    cases c1 : xe_c .ge (nI i) 4096 with
    | true =>
      have z1 : i ≥ 4096 := nq_get (a := i) (b := 4096) (by omega) (by omega) c1
      refine xq_m 125 [0, 3] [(0, .ref 39), (3, .int (nI i))] [] h [true] 5 hq rfl ⟨c1, trivial⟩ (fun hq => ?_)
      exact K f _ _ hq ge (lp_1 w (by omega))
    | false =>
      have z1 : i < 4096 := nq_gef (a := i) (b := 4096) (by omega) (by omega) c1
      refine xq_m 91 [0, 3] [(0, .ref 39), (3, .int ((nI i) + Int32.ofInt 1))] [] (xh_ui h 43 (((4096 * (xg 0 h.2.1 39 26)) + (nI i)).toNatClampNeg) (vp_nar .boolean (xg 0 h.2.1 45 ((nI i).toNatClampNeg)))) [false] 20 hq rfl ⟨c1, trivial⟩ (fun _ => ?_)
      rw [show (xg 0 h.2.1 45 ((nI i).toNatClampNeg)) = xg 0 h.2.1 45 i from (by rw [show ((nI i).toNatClampNeg) = i from nI_clamp (by omega)])]
      rw [show (xg 0 h.2.1 39 26) = (nI nn) from ((fx_i ge rfl).trans eb)]
      rw [show ((4096 * (nI nn)) + (nI i)) = nI (4096 * nn + i) from idx_a]
      rw [show ((nI (4096 * nn + i)).toNatClampNeg) = (4096 * nn + i) from nI_clamp (by omega)]
      rw [show ((nI i) + Int32.ofInt 1) = nI (i + 1) from nI_1 _]
      have hq : a_rq a_tb (xh_ui h 43 (4096 * nn + i) (vp_nar .boolean (xg 0 h.2.1 45 i))) := a_rq_ui hq
      exact ih (i + 1) _ hq (fx_ui ge (ble_t (by omega))) (by omega) (lp_w w (fun e => by rw [e, show xg 0 h.2.1 45 sv = z45 from (fx_i ge rfl).trans b45]))
set_option maxRecDepth 100000 in
set_option maxHeartbeats 4000000 in
theorem sld_141 {hb : xh_H} {sv sc : Nat} {fd z45 z : Int32} {Q : Option Value → xh_H → Prop} (s4 : sv < 4096) (m16 : sc ≤ 16) (eb : xg 0 hb.2.1 39 33 = nI sc) (b45 : xg 0 hb.2.1 45 sv = z45) (K : ∀ (f : Nat) (x : Int32) (h : xh_H), a_rq a_tb h → fx (F44 sc) fN hb h → xg 0 h.2.1 44 (4096 * sc + sv) = vp_nar .boolean z45 → xq f xi_X10_statute xmi_X10_statute 175 [(0, .ref 39), (1, .int fd), (3, .int x)] [] h Q) : ∀ (f i : Nat) (h : xh_H), a_rq a_tb h → fx (F44 sc) fN hb h → i ≤ 4096 → xg 0 h.2.1 44 (4096 * sc + sv) = (if sv < i then vp_nar .boolean z45 else z) → xq f xi_X10_statute xmi_X10_statute 141 [(0, .ref 39), (1, .int fd), (3, .int (nI i))] [] h Q := by
  intro f
  induction f with
  | zero => intros; exact xq_0
  | succ f ih =>
    intro i h hq ge i6 w
    cases c1 : xe_c .ge (nI i) 4096 with
    | true =>
      have z1 : i ≥ 4096 := nq_get (a := i) (b := 4096) (by omega) (by omega) c1
      refine xq_m 175 [0, 1, 3] [(0, .ref 39), (1, .int fd), (3, .int (nI i))] [] h [true] 5 hq rfl ⟨c1, trivial⟩ (fun hq => ?_)
      exact K f _ _ hq ge (lp_1 w (by omega))
    | false =>
      have z1 : i < 4096 := nq_gef (a := i) (b := 4096) (by omega) (by omega) c1
      refine xq_m 141 [0, 1, 3] [(0, .ref 39), (1, .int fd), (3, .int ((nI i) + Int32.ofInt 1))] [] (xh_ui h 44 (((4096 * (xg 0 h.2.1 39 33)) + (nI i)).toNatClampNeg) (vp_nar .boolean (xg 0 h.2.1 45 ((nI i).toNatClampNeg)))) [false] 20 hq rfl ⟨c1, trivial⟩ (fun _ => ?_)
      rw [show (xg 0 h.2.1 45 ((nI i).toNatClampNeg)) = xg 0 h.2.1 45 i from (by rw [show ((nI i).toNatClampNeg) = i from nI_clamp (by omega)])]
      rw [show (xg 0 h.2.1 39 33) = (nI sc) from ((fx_i ge rfl).trans eb)]
      rw [show ((4096 * (nI sc)) + (nI i)) = nI (4096 * sc + i) from idx_a]
      rw [show ((nI (4096 * sc + i)).toNatClampNeg) = (4096 * sc + i) from nI_clamp (by omega)]
      rw [show ((nI i) + Int32.ofInt 1) = nI (i + 1) from nI_1 _]
      have hq : a_rq a_tb (xh_ui h 44 (4096 * sc + i) (vp_nar .boolean (xg 0 h.2.1 45 i))) := a_rq_ui hq
      exact ih (i + 1) _ hq (fx_ui ge (ble_t (by omega))) (by omega) (lp_w w (fun e => by rw [e, show xg 0 h.2.1 45 sv = z45 from (fx_i ge rfl).trans b45]))
set_option maxRecDepth 100000 in
set_option maxHeartbeats 4000000 in
/-- X10.readBody -/
theorem rbd_d {f p o p' o' sv : Nat} {NV : Nat → Bool} {y one0 : Bool} {h : xh_H} (s4 : sv < 4096) (kn : nmt T n (tke T n p) = true) (hn' : hasn nn NW (tkw T n (tke T n p)) = false) (n15 : nn < 16) (k58 : tkk T n (tke T n (tke T n p)) = 58) (hR : ∀ one, Rv T n nn NW sv NV mem (1, tke T n (tke T n (tke T n p)), o, [0]) ([vR], one) (0, p', o', []) ([], y)) (dn : dnm h sv nn NV) (d45 : xg 0 h.2.1 45 sv = bl one0) (r0 : rq0 h T n mem nn NW p o) (nz : tkk T n p ≠ 0) (hq : a_rq a_tb h) : xq f xi_X10_readBody xmi_X10_readBody 0 [(0, .ref 39)] [] h (fun v h' => xg 0 h'.2.1 45 sv = bl y ∧ dnm h' sv (nn + 1) (upB NV nn y)) := by
  have hT : ∀ k, k < n → T k < 256 := fun k hk' => (r0.1.2.2 k hk').1
  have rt := r0.2.1
  have kb := tkk_lt (T := T) (n := n) (p := p) hT
  have n16 := r0.2.2.2.2.1.2.1
  have n6 := r0.1.2.1
  have o120 := r0.2.2.2.2.2.2.1
  have dkn := of_decide_eq_true kn
  have k58b : decide (tkk T n (tke T n (tke T n p)) = 58) = true := decide_eq_true k58
  refine xq_n 1 [0] [(0, .ref 39)] [.ref 39] h [] 3 hq rfl trivial (fun hq => ?_)
  have nz1 : tkk T n p ≠ 0 := by omega
  have le1 := tke_le nz1
  refine xq_run hq rfl rfl (go_q hq (r0.1) (rt.2.2.2.2.2 (by omega)) le1) ?_
  rintro v1 h1 ⟨rfl, g1, t1⟩
  have hq := fx_q g1 hq
  have rb1 := (rkk_k (T := T) (n := n) (p := tke T n p)).1
  have kb1 := tkk_lt (T := T) (n := n) (p := tke T n p) hT
  refine xq_n 5 [0] [(0, .ref 39)] [.ref 39] h1 [] 3 hq rfl trivial (fun hq => ?_)
  refine xq_run hq rfl rfl (rnm_q hT (t1) hq) ?_
  rintro v2 h_v2 ⟨rfl, rfl⟩
  refine xq_n 18 [0] [(0, .ref 39)] [.ref 39] h1 [true] 4 hq rfl ⟨(show xe_c .ne (bl (nmt T n (tke T n p))) 0 = true by rw [kn]; rfl), trivial⟩ (fun hq => ?_)
  refine xq_run hq rfl rfl (nh_q (nms_f (S := rT) (L := gL) r0.2.2.2.2.1 (fx_t (fx_0) (fx_w g1 (fun _ _ z => gS_r (rS_t z)) (fun _ _ z => z))) rfl (fun _ => rfl)) ((t1.2.2.1 (by omega)).2) (tkw_lt (by omega)) hq) ?_
  rintro v3 h_3 ⟨rfl, ⟨rfl, -⟩ | ⟨kk3, kl3, rfl, -, hn3⟩⟩
  · skip
    cases c4 : xe_c .ne (nI nn) 16 with
    | true =>
      have z4 : nn ≠ 16 := nq_net (a := nn) (b := 16) (by omega) (by omega) c4
      refine xq_n 52 [0, 1] [(0, .ref 39), (1, .long (xg 0 h1.2.2.1 39 15))] [.ref 39] h1 [true, true] 12 hq rfl ⟨(by decide), (show xe_c .ne (xg 0 h1.2.1 39 26) 16 = true by rw [show (xg 0 h1.2.1 39 26) = (nI nn) from (fx_i g1 rfl).trans (r0.2.2.2.2.1.1)]; exact c4), trivial⟩ (fun hq => ?_)
      rw [show (xg 0 h1.2.2.1 39 15) = (Int64.ofNat (tkw T n (tke T n p))) from (t1.2.2.1 (by omega)).2]
      have nz5 : tkk T n (tke T n p) ≠ 0 := by omega
      have le5 := tke_le nz5
      refine xq_run hq rfl rfl (go_q hq (rtp_f (S := rT) (L := gL) r0.1 (fx_t (fx_0) (fx_w g1 (fun _ _ z => gS_r (rS_t z)) (fun _ _ z => z))) rfl (fun _ => rfl)) (t1.2.2.2.2.2 (by omega)) le5) ?_
      rintro v5 h5 ⟨rfl, g5, t5⟩
      have hq := fx_q g5 hq
      have rb5 := (rkk_k (T := T) (n := n) (p := tke T n (tke T n p))).1
      have kb5 := tkk_lt (T := T) (n := n) (p := tke T n (tke T n p)) hT
      refine xq_n 58 [0, 1] [(0, .ref 39), (1, .long (Int64.ofNat (tkw T n (tke T n p))))] [.int 58, .ref 39] h5 [] 4 hq rfl trivial (fun hq => ?_)
      refine xq_run hq rfl rfl (rsg_q (c := 58) (by decide) (by decide) hT (t5) hq) ?_
      rintro v6 h_v6 ⟨rfl, rfl⟩
      refine xq_n 71 [0, 1] [(0, .ref 39), (1, .long (Int64.ofNat (tkw T n (tke T n p))))] [.ref 39] h5 [true] 4 hq rfl ⟨(show xe_c .ne (bl (decide (tkk T n (tke T n (tke T n p)) = 58))) 0 = true by rw [k58b]; rfl), trivial⟩ (fun hq => ?_)
      have gA : fx rT gL h h5 := fx_t (fx_t (fx_0) (fx_w g1 (fun _ _ z => gS_r (rS_t z)) (fun _ _ z => z))) (fx_w g5 (fun _ _ z => gS_r (rS_t z)) (fun _ _ z => z))
      have r1 : rq0 h5 T n mem nn NW (tke T n (tke T n p)) o := ⟨rtp_f (S := rT) (L := gL) r0.1 (fx_t (fx_t (fx_0) (fx_w g1 (fun _ _ z => gS_r (rS_t z)) (fun _ _ z => z))) (fx_w g5 (fun _ _ z => gS_r (rS_t z)) (fun _ _ z => z))) rfl (fun _ => rfl), t5, (fx_i g5 rfl).trans ((fx_i g1 rfl).trans (r0.2.2.1)), r0.2.2.2.1, nms_f (S := rT) (L := gL) r0.2.2.2.2.1 (fx_t (fx_t (fx_0) (fx_w g1 (fun _ _ z => gS_r (rS_t z)) (fun _ _ z => z))) (fx_w g5 (fun _ _ z => gS_r (rS_t z)) (fun _ _ z => z))) rfl (fun _ => rfl), (fx_i g5 rfl).trans ((fx_i g1 rfl).trans (r0.2.2.2.2.2.1)), r0.2.2.2.2.2.2.1, (fx_i g5 rfl).trans ((fx_i g1 rfl).trans (r0.2.2.2.2.2.2.2))⟩
      refine xq_run hq rfl rfl (xq_and (rrl_q (Or.inr ⟨p', o', rfl, Rv_c (hR true)⟩) r1 (by omega) hq) (rrl_d (one0 := one0) s4 hR (dnm_f dn gA (fun _ => rfl)) ((fx_i g5 rfl).trans ((fx_i g1 rfl).trans (d45))) r1 (by omega) hq)) ?_
      rintro v h9 ⟨⟨g9, q1, q2⟩, k45, dn9⟩
      have hq := fx_q g9 hq
      obtain ⟨rfl, r9⟩ := q1 _ _ rfl
      have e26 := r9.2.2.2.2.1.1
      refine xq_n 91 [0, 3] [(0, .ref 39), (3, .int (Int32.ofInt 0))] [] (xh_ul h9 50 (xg 0 h9.2.1 39 26).toNatClampNeg (Int64.ofNat (tkw T n (tke T n p)))) [true] 11 hq rfl ⟨rfl, trivial⟩ (fun _ => ?_)
      rw [e26, show (nI nn).toNatClampNeg = nn from nI_clamp (by omega)]
      have hq : a_rq a_tb (xh_ul h9 50 nn (Int64.ofNat (tkw T n (tke T n p)))) := a_rq_ul hq
      refine bld_91 (hb := xh_ul h9 50 nn (Int64.ofNat (tkw T n (tke T n p)))) s4 (by omega) e26 k45 (fun f x h3 hq g3 w3 => ?_) f 0 _ hq fx_0 (by omega) (lp_0 _ rfl)
      refine xq_n 136 [] [] [.int (Int32.ofInt 1)] (xh_ui h3 39 26 ((xg 0 h3.2.1 39 26) + (Int32.ofInt 1))) [] 9 hq rfl trivial (fun _ => ?_)
      refine xq_ret rfl rfl rfl ⟨(gx_o (by decide)).trans ((fx_i g3 rfl).trans k45), fun k hk' => ?_⟩
      unfold upB
      rw [gx_o (by decide)]
      by_cases ek : k = nn
      · rw [if_pos ek, ek, w3]; exact bl_n
      · rw [if_neg ek]; exact (fx_i (c := 43) (k := 4096 * k + sv) g3 (show Nat.ble (4096 * nn) (4096 * k + sv) = false from ble_n (by omega))).trans (dn9 k (by omega))
    | false =>
      have z4 : nn = 16 := nq_nef (a := nn) (b := 16) (by omega) (by omega) c4
      omega
  · rw [hn'] at hn3; cases hn3
def rW2 (sc c k : Nat) : Bool := rU c k || ((Nat.beq c 39 && Nat.beq k 33) || ((Nat.beq c 44 && Nat.ble (4096 * sc) k) || ((Nat.beq c 51 || Nat.beq c 52) && Nat.beq k sc)))
theorem rU_w2 {sc c k : Nat} (h : rW2 sc c k = false) : rU c k = false := (or_f h).1
theorem F44_w {sc c k : Nat} (h : rW2 sc c k = false) : F44 sc c k = false := (or_f (or_f (or_f h).2).2).1
theorem rW2_1 {sc : Nat} : rW2 sc 51 sc = true := by
  show Nat.beq sc sc = true
  exact Nat.beq_refl sc
theorem rW2_2 {sc : Nat} : rW2 sc 52 sc = true := by
  show Nat.beq sc sc = true
  exact Nat.beq_refl sc
def st_Q2 (h0 : xh_H) (sc : Nat) (fd : Int32) (r : Sum Nat (Nat × Nat)) (v : Option Value) (h' : xh_H) : Prop := fx (rW2 sc) rV h0 h' ∧ (∀ m, r = .inl m → xg 0 h'.2.1 39 33 = nI (sc + 1) ∧ xg 0 h'.2.1 51 sc = fd ∧ xg 0 h'.2.1 52 sc = xg 0 h0.2.1 39 3) ∧ ∀ k pl, r = .inr (k, pl) → xg 0 h'.2.1 39 33 = nI sc
set_option maxRecDepth 100000 in
set_option maxHeartbeats 4000000 in
/-- the text is accepted -/
theorem st_ok2 {f sc m sv : Nat} {fd z45 : Int32} {h0 h : xh_H} (s4 : sv < 4096) (hq : a_rq a_tb h) (g0 : fx rU rV h0 h) (e33 : xg 0 h.2.1 39 33 = nI sc) (sc8 : sc < 8) (b45 : xg 0 h.2.1 45 sv = z45) : xq f xi_X10_statute xmi_X10_statute 139 [(0, .ref 39), (1, .int fd)] [] h (fun v h' => st_Q2 h0 sc fd (.inl m) v h' ∧ xg 0 h'.2.1 44 (4096 * sc + sv) = vp_nar .boolean z45) := by
  refine xq_n 141 [0, 1, 3] [(0, .ref 39), (1, .int fd), (3, .int (Int32.ofInt 0))] [] h [] 4 hq rfl trivial (fun hq => ?_)
  refine sld_141 (hb := h) s4 (by omega) e33 b45 (fun f x h1 hq g1 w44 => ?_) f 0 _ hq fx_0 (by omega) (lp_0 _ rfl)
  have f33 : xg 0 h1.2.1 39 33 = nI sc := (fx_i g1 rfl).trans e33
  have f3 : xg 0 h1.2.1 39 3 = xg 0 h0.2.1 39 3 := (fx_i g1 rfl).trans (fx_i g0 rfl)
  refine xq_n 185 [0] [(0, .ref 39)] [] (xh_ui h1 51 (xg 0 h1.2.1 39 33).toNatClampNeg fd) [] 8 hq rfl trivial (fun _ => ?_)
  rw [f33, show (nI sc).toNatClampNeg = sc from nI_clamp (by omega)]
  have hq : a_rq a_tb (xh_ui h1 51 sc fd) := a_rq_ui hq
  have d33 : xg 0 (xh_ui h1 51 sc fd).2.1 39 33 = nI sc := (gx_o (by decide)).trans f33
  have d3 : xg 0 (xh_ui h1 51 sc fd).2.1 39 3 = xg 0 h0.2.1 39 3 := (gx_o (by decide)).trans f3
  have d51 : xg 0 (xh_ui h1 51 sc fd).2.1 51 sc = fd := gx_s
  have d44 : xg 0 (xh_ui h1 51 sc fd).2.1 44 (4096 * sc + sv) = vp_nar .boolean z45 := (gx_o (by decide)).trans w44
  have g2 : fx (rW2 sc) rV h0 (xh_ui h1 51 sc fd) := fx_ui (fx_t (fx_w g0 (fun _ _ => rU_w2) (fun _ _ z => z)) (fx_w g1 (fun c k z => F44_w z) (fun _ _ _ => rfl))) rW2_1
  generalize xh_ui h1 51 sc fd = h2 at hq d33 d3 d51 d44 g2 ⊢
  refine xq_n 198 [0] [(0, .ref 39)] [] (xh_ui h2 52 (xg 0 h2.2.1 39 33).toNatClampNeg (xg 0 h2.2.1 39 3)) [] 9 hq rfl trivial (fun _ => ?_)
  rw [d33, d3, show (nI sc).toNatClampNeg = sc from nI_clamp (by omega)]
  have hq : a_rq a_tb (xh_ui h2 52 sc (xg 0 h0.2.1 39 3)) := a_rq_ui hq
  have c33 : xg 0 (xh_ui h2 52 sc (xg 0 h0.2.1 39 3)).2.1 39 33 = nI sc := (gx_o (by decide)).trans d33
  have c51 : xg 0 (xh_ui h2 52 sc (xg 0 h0.2.1 39 3)).2.1 51 sc = fd := (gx_o (by decide)).trans d51
  have c52 : xg 0 (xh_ui h2 52 sc (xg 0 h0.2.1 39 3)).2.1 52 sc = xg 0 h0.2.1 39 3 := gx_s
  have c44 : xg 0 (xh_ui h2 52 sc (xg 0 h0.2.1 39 3)).2.1 44 (4096 * sc + sv) = vp_nar .boolean z45 := (gx_o (by decide)).trans d44
  have g3 : fx (rW2 sc) rV h0 (xh_ui h2 52 sc (xg 0 h0.2.1 39 3)) := fx_ui g2 rW2_2
  generalize xh_ui h2 52 sc (xg 0 h0.2.1 39 3) = h3 at hq c33 c51 c52 c44 g3 ⊢
  refine xq_n 212 [] [] [.int (xg 0 (xh_ui h3 39 33 ((xg 0 h3.2.1 39 33) + (Int32.ofInt 1))).2.1 39 26)] (xh_ui h3 39 33 ((xg 0 h3.2.1 39 33) + (Int32.ofInt 1))) [] 11 hq rfl trivial (fun _ => ?_)
  rw [c33, show nI sc + Int32.ofInt 1 = nI (sc + 1) from nI_1 _]
  refine xq_ret rfl rfl rfl ⟨⟨fx_ui g3 rfl, fun _ _ => ⟨gx_s, (gx_o (by decide)).trans c51, (gx_o (by decide)).trans c52⟩, fun _ _ e => (by cases e)⟩, (gx_o (by decide)).trans c44⟩
set_option maxRecDepth 100000 in
set_option maxHeartbeats 4000000 in
theorem st_bad2 {f sc k pl : Nat} {fd : Int32} {h0 h : xh_H} (hq : a_rq a_tb h) (g0 : fx rU rV h0 h) (e33 : xg 0 h.2.1 39 33 = nI sc) (e13 : xg 0 h.2.1 39 13 = nI k) (e14 : xg 0 h.2.1 39 14 = nI pl) : xq f xi_X10_statute xmi_X10_statute 132 [(0, .ref 39), (1, .int fd)] [] h (st_Q2 h0 sc fd (.inr (k, pl))) := by
  refine xq_n 138 [] [] [.int ((Int32.ofInt (-1)) - (xg 0 h.2.1 39 14))] h [] 6 hq rfl trivial (fun hq => ?_)
  rw [e14]
  refine xq_ret rfl rfl rfl ⟨fx_w g0 (fun _ _ => rU_w2) (fun _ _ z => z), fun _ e => (by cases e), fun _ _ e => ?_⟩
  exact e33
set_option maxRecDepth 100000 in
set_option maxHeartbeats 4000000 in
theorem st_fin2 {f sc p o : Nat} {fd : Int32} {h0 h : xh_H} {r : Sum Nat (Nat × Nat)} (hF : Fin_ T n mem p o nn NW r) (r0 : rq0 h T n mem nn NW p o) (hq : a_rq a_tb h) (g0 : fx rU rV h0 h) (e33 : xg 0 h.2.1 39 33 = nI sc) (sc8 : sc < 8) : xq f xi_X10_statute xmi_X10_statute 85 [(0, .ref 39), (1, .int fd)] [] h (st_Q2 h0 sc fd r) := by
  have hT : ∀ k, k < n → T k < 256 := fun k hk' => (r0.1.2.2 k hk').1
  unfold Fin_ at hF
  refine xq_n 86 [0, 1] [(0, .ref 39), (1, .int fd)] [.ref 39] h [] 3 hq rfl trivial (fun hq => ?_)
  refine xq_run hq rfl rfl (rw1_q hT r0.2.1 hq) ?_
  rintro v h1 ⟨rfl, rfl⟩
  cases b : ky T n p 1 with
  | false =>
    rw [if_pos b] at hF
    subst hF
    refine xq_n 94 [0, 1] [(0, .ref 39), (1, .int fd)] [.int (Int32.ofInt 1), .ref 39] h [false] 5 hq rfl ⟨rfl, trivial⟩ (fun hq => ?_)
    refine xq_run hq rfl rfl (bad_q (k := 1) hT r0.2.1 hq) ?_
    rintro v h2 ⟨rfl, g2, f2, l2⟩
    have hq := fx_q g2 hq
    rw [show (if rkk T n p = 1 then 1 else 1) = 1 by split <;> rfl] at f2
    refine xq_n 132 [0, 1] [(0, .ref 39), (1, .int fd)] [] h2 [true, true] 8 hq rfl ⟨rfl, by decide, trivial⟩ (fun hq => ?_)
    exact st_bad2 hq (fx_t g0 (fx_w g2 (fun _ _ z => bS_r (rS_t (rT_u z))) (fun _ _ _ => rfl))) ((fx_i g2 rfl).trans e33) f2 l2
  | true =>
    rw [if_neg (by rw [b]; decide)] at hF
    obtain ⟨q, hR, hq2⟩ := hF
    have nz : tkk T n p ≠ 0 := by have := (of_decide_eq_true b).1; omega
    refine xq_n 111 [0, 1] [(0, .ref 39), (1, .int fd)] [.ref 39] h [true, false] 9 hq rfl ⟨rfl, by decide, trivial⟩ (fun hq => ?_)
    refine xq_run hq rfl rfl (rrl_q hR r0 nz hq) ?_
    rintro v h2 ⟨g2, q1, q2⟩
    have hq := fx_q g2 hq
    have g3 : fx rU rV h0 h2 := fx_t g0 (fx_w g2 (fun _ _ => rT_u) (fun _ _ => gL_v))
    have f33 : xg 0 h2.2.1 39 33 = nI sc := (fx_i g2 rfl).trans e33
    rcases hq2 with ⟨k, pl, rfl, rfl⟩ | ⟨p', o', rfl, rfl⟩
    · obtain ⟨rfl, f1, f2⟩ := q2 _ _ rfl
      refine xq_n 132 [0, 1] [(0, .ref 39), (1, .int fd)] [] h2 [true] 3 hq rfl ⟨rfl, trivial⟩ (fun hq => ?_)
      exact st_bad2 hq g3 f33 f1 f2
    · obtain ⟨rfl, s1, s2, s3, s4, s5, s6, s7, s8⟩ := q1 _ _ rfl
      have rb := (rkk_k (T := T) (n := n) (p := p')).1
      by_cases hz : rkk T n p' = 0
      · rw [if_pos hz]
        refine xq_n 139 [0, 1] [(0, .ref 39), (1, .int fd)] [] h2 [false, true] 6 hq rfl ⟨rfl, (show xe_c .eq (xg 0 h2.2.1 39 9) 0 = true by rw [s2.2.1, hz]; rfl), trivial⟩ (fun hq => ?_)
        exact xq_mono (st_ok2 (sv := 0) (by decide) hq g3 f33 sc8 rfl) (fun v h' e => e.1)
      · rw [if_neg hz]
        refine xq_n 126 [0, 1] [(0, .ref 39), (1, .int fd)] [.int (Int32.ofInt 1), .ref 39] h2 [false, false] 8 hq rfl ⟨rfl, (show xe_c .eq (xg 0 h2.2.1 39 9) 0 = false by rw [s2.2.1]; exact xeq_f (by rw [nI_toInt (by omega)]; show ((rkk T n p' : Nat) : Int) ≠ 0; omega)), trivial⟩ (fun hq => ?_)
        refine xq_run hq rfl rfl (bad_q (k := 1) hT s2 hq) ?_
        rintro v h3 ⟨rfl, g4, f4, l4⟩
        have hq := fx_q g4 hq
        rw [show (if rkk T n p' = 1 then 1 else 1) = 1 by split <;> rfl] at f4
        refine xq_n 132 [0, 1] [(0, .ref 39), (1, .int fd)] [] h3 [false] 3 hq rfl ⟨rfl, trivial⟩ (fun hq => ?_)
        exact st_bad2 hq (fx_t g3 (fx_w g4 (fun _ _ z => bS_r (rS_t (rT_u z))) (fun _ _ _ => rfl))) ((fx_i g4 rfl).trans f33) f4 l4
set_option maxRecDepth 100000 in
set_option maxHeartbeats 4000000 in
theorem st_642 {sc : Nat} {fd : Int32} {h0 : xh_H} {r : Sum Nat (Nat × Nat)} (sc8 : sc < 8) : ∀ (j p o nn : Nat) (NW : Nat → Nat) (f : Nat) (h : xh_H), Tx T n mem j p o nn NW r → rq0 h T n mem nn NW p o → a_rq a_tb h → fx rU rV h0 h → xg 0 h.2.1 39 33 = nI sc → xq f xi_X10_statute xmi_X10_statute 64 [(0, .ref 39), (1, .int fd)] [] h (st_Q2 h0 sc fd r) := by
  intro j
  induction j with
  | zero =>
    intro p o nn NW f h hX r0 hq g0 e33
    have hT : ∀ k, k < n → T k < 256 := fun k hk' => (r0.1.2.2 k hk').1
    refine xq_n 65 [0, 1] [(0, .ref 39), (1, .int fd)] [.ref 39] h [] 3 hq rfl trivial (fun hq => ?_)
    refine xq_run hq rfl rfl (rw0_q hT r0.2.1 hq) ?_
    rintro v h1 ⟨rfl, rfl⟩
    rw [hX.1]
    refine xq_n 85 [0, 1] [(0, .ref 39), (1, .int fd)] [] h [true] 3 hq rfl ⟨rfl, trivial⟩ (fun hq => ?_)
    exact st_fin2 hX.2 r0 hq g0 e33 sc8
  | succ j ih =>
    intro p o nn NW f h hX r0 hq g0 e33
    have hT : ∀ k, k < n → T k < 256 := fun k hk' => (r0.1.2.2 k hk').1
    obtain ⟨hb, b, hB, hb2⟩ := hX
    have nz : tkk T n p ≠ 0 := by have := (of_decide_eq_true hb).1; omega
    refine xq_n 65 [0, 1] [(0, .ref 39), (1, .int fd)] [.ref 39] h [] 3 hq rfl trivial (fun hq => ?_)
    refine xq_run hq rfl rfl (rw0_q hT r0.2.1 hq) ?_
    rintro v h1 ⟨rfl, rfl⟩
    rw [hb]
    refine xq_n 72 [0, 1] [(0, .ref 39), (1, .int fd)] [.ref 39] h [false] 4 hq rfl ⟨rfl, trivial⟩ (fun hq => ?_)
    refine xq_run hq rfl rfl (rbd_q hB r0 nz hq) ?_
    rintro v h2 ⟨g2, q1, q2⟩
    have hq := fx_q g2 hq
    have f33 : xg 0 h2.2.1 39 33 = nI sc := (fx_i g2 rfl).trans e33
    rcases hb2 with ⟨k, pl, rfl, rfl⟩ | ⟨p', o', w, rfl, hX2⟩
    · obtain ⟨rfl, f1, f2⟩ := q2 _ _ rfl
      refine xq_n 84 [] [] [.int ((Int32.ofInt (-1)) - (xg 0 h2.2.1 39 14))] h2 [false] 7 hq rfl ⟨rfl, trivial⟩ (fun hq => ?_)
      rw [f2]
      refine xq_ret rfl rfl rfl ⟨fx_w (fx_t g0 g2) (fun _ _ => rU_w2) (fun _ _ z => z), fun _ e => (by cases e), fun _ _ e => ?_⟩
      exact f33
    · obtain ⟨rfl, r1⟩ := q1 _ _ _ rfl
      refine xq_n 64 [0, 1] [(0, .ref 39), (1, .int fd)] [] h2 [true] 3 hq rfl ⟨rfl, trivial⟩ (fun hq => ?_)
      exact ih _ _ _ _ f h2 hX2 r1 hq (fx_t g0 g2) f33
set_option maxRecDepth 100000 in
set_option maxHeartbeats 4000000 in
theorem st_64d {sc sv : Nat} {y : Bool} {fd : Int32} (s4 : sv < 4096) (sc8 : sc < 8) : ∀ (j p o nn : Nat) (NW : Nat → Nat) (NV : Nat → Bool) (one0 : Bool) (f : Nat) (h : xh_H), Tv T n mem sv j p o nn NW NV y → rq0 h T n mem nn NW p o → dnm h sv nn NV → xg 0 h.2.1 45 sv = bl one0 → a_rq a_tb h → xg 0 h.2.1 39 33 = nI sc → xq f xi_X10_statute xmi_X10_statute 64 [(0, .ref 39), (1, .int fd)] [] h (fun v h' => xg 0 h'.2.1 44 (4096 * sc + sv) = bl y) := by
  intro j
  induction j with
  | zero =>
    intro p o nn NW NV one0 f h hX r0 dn d45 hq e33
    have hT : ∀ k, k < n → T k < 256 := fun k hk' => (r0.1.2.2 k hk').1
    obtain ⟨kb, kc, p', o', hz, hR⟩ := hX
    have nz : tkk T n p ≠ 0 := by have := (of_decide_eq_true kc).1; omega
    refine xq_n 65 [0, 1] [(0, .ref 39), (1, .int fd)] [.ref 39] h [] 3 hq rfl trivial (fun hq => ?_)
    refine xq_run hq rfl rfl (rw0_q hT r0.2.1 hq) ?_
    rintro v h1 ⟨rfl, rfl⟩
    rw [kb]
    refine xq_n 85 [0, 1] [(0, .ref 39), (1, .int fd)] [] h [true] 3 hq rfl ⟨rfl, trivial⟩ (fun hq => ?_)
    refine xq_n 86 [0, 1] [(0, .ref 39), (1, .int fd)] [.ref 39] h [] 3 hq rfl trivial (fun hq => ?_)
    refine xq_run hq rfl rfl (rw1_q hT r0.2.1 hq) ?_
    rintro v h1 ⟨rfl, rfl⟩
    rw [kc]
    refine xq_n 111 [0, 1] [(0, .ref 39), (1, .int fd)] [.ref 39] h [true, false] 9 hq rfl ⟨rfl, by decide, trivial⟩ (fun hq => ?_)
    refine xq_run hq rfl rfl (xq_and (rrl_q (Or.inr ⟨p', o', rfl, Rv_c (hR true)⟩) r0 nz hq) (rrl_d s4 hR dn d45 r0 nz hq)) ?_
    rintro v h2 ⟨⟨g2, q1, q2⟩, k45, -⟩
    have hq := fx_q g2 hq
    obtain ⟨rfl, s1, s2, s3, s4', s5, s6, s7, s8⟩ := q1 _ _ rfl
    refine xq_n 139 [0, 1] [(0, .ref 39), (1, .int fd)] [] h2 [false, true] 6 hq rfl ⟨rfl, (show xe_c .eq (xg 0 h2.2.1 39 9) 0 = true by rw [s2.2.1, hz]; rfl), trivial⟩ (fun hq => ?_)
    refine xq_mono (st_ok2 (m := 0) s4 hq fx_0 ((fx_i g2 rfl).trans e33) sc8 k45) (fun v h' e => ?_)
    rw [e.2]
    exact bl_n
  | succ j ih =>
    intro p o nn NW NV one0 f h hX r0 dn d45 hq e33
    have hT : ∀ k, k < n → T k < 256 := fun k hk' => (r0.1.2.2 k hk').1
    obtain ⟨kb, kn, hn', n15, k58, p', o', y1, hR, hX⟩ := hX
    have nz : tkk T n p ≠ 0 := by have := (of_decide_eq_true kb).1; omega
    have hB : Bdy T n mem nn NW p o (.inl (p', o', tkw T n (tke T n p))) := by
      unfold Bdy
      rw [if_neg (by rw [kn]; decide), if_neg (by rw [hn']; decide), if_neg (by omega), if_neg (by omega)]
      exact ⟨.inl (p', o'), Or.inr ⟨p', o', rfl, Rv_c (hR true)⟩, rfl⟩
    refine xq_n 65 [0, 1] [(0, .ref 39), (1, .int fd)] [.ref 39] h [] 3 hq rfl trivial (fun hq => ?_)
    refine xq_run hq rfl rfl (rw0_q hT r0.2.1 hq) ?_
    rintro v h1 ⟨rfl, rfl⟩
    rw [kb]
    refine xq_n 72 [0, 1] [(0, .ref 39), (1, .int fd)] [.ref 39] h [false] 4 hq rfl ⟨rfl, trivial⟩ (fun hq => ?_)
    refine xq_run hq rfl rfl (xq_and (rbd_q hB r0 nz hq) (rbd_d s4 kn hn' n15 k58 hR dn d45 r0 nz hq)) ?_
    rintro v h2 ⟨⟨g2, q1, q2⟩, k45, dn2⟩
    have hq := fx_q g2 hq
    have f33 : xg 0 h2.2.1 39 33 = nI sc := (fx_i g2 rfl).trans e33
    obtain ⟨rfl, r1⟩ := q1 _ _ _ rfl
    refine xq_n 64 [0, 1] [(0, .ref 39), (1, .int fd)] [] h2 [true] 3 hq rfl ⟨rfl, trivial⟩ (fun hq => ?_)
    exact ih _ _ _ _ _ _ f h2 hX r1 dn2 k45 hq f33
/-- what the reference's statute leaves of its statutes -/
def sA0 (c k : Nat) : Bool := Nat.beq c 39 && (Nat.beq k 0 || (Nat.beq k 2 || Nat.beq k 6))
def rW3 (sc c k : Nat) : Bool := rW2 sc c k || sA0 c k
theorem sA0_w {sc c k : Nat} (h : rW3 sc c k = false) : sA0 c k = false := (or_f h).2
theorem rW3_w {sc c k : Nat} (h : rW3 sc c k = false) : rW2 sc c k = false := (or_f h).1
def s10_D (h : xh_H) (sc td : Nat) (fd : Int32) (r : Sum Nat (Nat × Nat)) (sv : Nat) (y : Bool) (v : Option Value) (h' : xh_H) : Prop := fx (rW3 sc) rV h h' ∧ (sref sc td fd → fx (fun c _ => Nat.beq c 39) rV h h') ∧ (¬ sref sc td fd → (∀ m, r = .inl m → xg 0 h'.2.1 39 33 = nI (sc + 1) ∧ xg 0 h'.2.1 51 sc = fd ∧ xg 0 h'.2.1 52 sc = nI td ∧ xg 0 h'.2.1 44 (4096 * sc + sv) = bl y) ∧ ∀ k pl, r = .inr (k, pl) → xg 0 h'.2.1 39 33 = nI sc)
def sA1 (c k : Nat) : Bool := Nat.beq c 39 && (Nat.beq k 13 || (Nat.beq k 26 || (Nat.beq k 27 || Nat.beq k 7)))
theorem sA1_w {sc c k : Nat} (h : rW3 sc c k = false) : sA1 c k = false := by
  rw [Bool.eq_false_iff]
  intro z
  unfold sA1 at z
  cases h1 : Nat.beq c 39 with
  | false => rw [h1] at z; cases z
  | true =>
    rw [h1] at z
    have e1 := Nat.eq_of_beq_eq_true h1
    subst e1
    have z : (Nat.beq k 13 || (Nat.beq k 26 || (Nat.beq k 27 || Nat.beq k 7))) = true := z
    cases h2 : Nat.beq k 13 with
    | true => rw [Nat.eq_of_beq_eq_true h2] at h; cases h
    | false =>
      rw [h2] at z
      cases h3 : Nat.beq k 26 with
      | true => rw [Nat.eq_of_beq_eq_true h3] at h; cases h
      | false =>
        rw [h3] at z
        cases h4 : Nat.beq k 27 with
        | true => rw [Nat.eq_of_beq_eq_true h4] at h; cases h
        | false =>
          rw [h4] at z
          have z : Nat.beq k 7 = true := z
          rw [Nat.eq_of_beq_eq_true z] at h
          cases h
theorem sA0_x {c k : Nat} (h : Nat.beq c 39 = false) : sA0 c k = false := by unfold sA0; rw [h]; rfl
theorem sA0_u {c k : Nat} (h : Nat.beq c 39 = false) : sA0 c k = false := by unfold sA0; rw [h]; rfl
theorem sA1_u {c k : Nat} (h : Nat.beq c 39 = false) : sA1 c k = false := by unfold sA1; rw [h]; rfl
theorem gS_u {c k : Nat} (h : Nat.beq c 39 = false) : gS c k = false := by unfold gS; rw [h]; rfl
set_option maxRecDepth 100000 in
set_option maxHeartbeats 4000000 in
/-- X10.statute -/
theorem s10_d {f sc td : Nat} {fd : Int32} {h : xh_H} {r : Sum Nat (Nat × Nat)} (hq : a_rq a_tb h) (n6 : n ≤ 640) (e2 : xg 0 h.2.1 39 2 = nI n) (hT : ∀ k, k < n → T k < 256 ∧ xg 0 h.2.1 40 k = nI (T k)) (e4 : xg 0 h.2.1 39 4 = nI mem) (m12 : mem ≤ 12) (e33 : xg 0 h.2.1 39 33 = nI sc) (sc8 : sc ≤ 8) (e3 : xg 0 h.2.1 39 3 = nI td) (td9 : td ≤ 999) {W : Nat → Nat} (hX : ¬ sref sc td fd → ∃ j, Tx T n mem j 0 0 0 W r) {sv : Nat} {y one0 : Bool} {NV : Nat → Bool} (s4 : sv < 4096) (d45 : xg 0 h.2.1 45 sv = bl one0) (hV : ¬ sref sc td fd → ∀ m, r = .inl m → ∃ j, Tv T n mem sv j 0 0 0 W NV y) : xq f xi_X10_statute xmi_X10_statute 0 [(0, .ref 39), (1, .int fd)] [] h (s10_D h sc td fd r sv y) := by
  have tdi := nI_toInt (n := td) (by omega)
  refine xq_n 7 [0, 1] [(0, .ref 39), (1, .int fd)] [.ref 39, .ref 39] (xh_ui h 39 0 (Int32.ofInt 0)) [] 7 hq rfl trivial (fun _ => ?_)
  have hq : a_rq a_tb (xh_ui h 39 0 (Int32.ofInt 0)) := a_rq_ui hq
  refine xq_run hq rfl rfl (take_q hq) ?_
  rintro v h1 ⟨rfl, rfl⟩
  have hq : a_rq a_tb (xh_ui (xh_ui h 39 0 (Int32.ofInt 0)) 39 2 (Int32.ofInt 0)) := a_rq_ui hq
  rw [show xg 0 (xh_ui h 39 0 (Int32.ofInt 0)).2.1 39 2 = nI n from (gx_k (by decide)).trans e2]
  have g1 : fx sA0 fN h (xh_ui (xh_ui (xh_ui h 39 0 (Int32.ofInt 0)) 39 2 (Int32.ofInt 0)) 39 6 (nI n)) := fx_ui (fx_ui (fx_ui fx_0 rfl) rfl) rfl
  have d33 := (fx_i (c := 39) (k := 33) g1 rfl).trans e33
  have d3 := (fx_i (c := 39) (k := 3) g1 rfl).trans e3
  have d13 := fx_i (c := 39) (k := 13) g1 rfl
  have d4 := (fx_i (c := 39) (k := 4) g1 rfl).trans e4
  have d40 : ∀ k, k < n → T k < 256 ∧ xg 0 (xh_ui (xh_ui (xh_ui h 39 0 (Int32.ofInt 0)) 39 2 (Int32.ofInt 0)) 39 6 (nI n)).2.1 40 k = nI (T k) := fun k hk' => ⟨(hT k hk').1, (fx_i (c := 40) (k := k) g1 rfl).trans (hT k hk').2⟩
  have d6 : xg 0 (xh_ui (xh_ui (xh_ui h 39 0 (Int32.ofInt 0)) 39 2 (Int32.ofInt 0)) 39 6 (nI n)).2.1 39 6 = nI n := gx_s
  have hq1 : a_rq a_tb (xh_ui (xh_ui (xh_ui h 39 0 (Int32.ofInt 0)) 39 2 (Int32.ofInt 0)) 39 6 (nI n)) := a_rq_ui hq
  refine xq_n 13 [0, 1] [(0, .ref 39), (1, .int fd)] [] (xh_ui (xh_ui (xh_ui h 39 0 (Int32.ofInt 0)) 39 2 (Int32.ofInt 0)) 39 6 (nI n)) [] 3 hq rfl trivial (fun _ => ?_)
  generalize xh_ui (xh_ui (xh_ui h 39 0 (Int32.ofInt 0)) 39 2 (Int32.ofInt 0)) 39 6 (nI n) = h1 at d33 d3 d13 d4 d40 d6 hq1 g1 ⊢
  have hq := hq1
  by_cases k8 : sc = 8
  · refine xq_n 39 [] [] [.int (-1000)] h1 [true] 7 hq rfl ⟨(show xe_c .eq (xg 0 h1.2.1 39 33) 8 = true by rw [d33, k8]; rfl), trivial⟩ (fun hq => ?_)
    exact xq_ret rfl rfl rfl ⟨fx_w g1 (fun _ _ => sA0_w) (fun _ _ _ => rfl), fun _ => fx_w g1 (fun _ _ => sA0_x) (fun _ _ _ => rfl), fun z => absurd (Or.inl (by omega)) z⟩
  have c1 : xe_c .eq (xg 0 h1.2.1 39 33) 8 = false := by rw [d33]; exact xeq_f (by rw [nI_toInt (by omega)]; show ((sc : Nat) : Int) ≠ 8; omega)
  refine xq_n 30 [0, 1] [(0, .ref 39), (1, .int fd)] [.int 999, .int (xg 0 h1.2.1 39 3), .int fd] h1 [false] 10 hq rfl ⟨c1, trivial⟩ (fun hq => ?_)
  rw [d3]
  refine xq_run hq rfl rfl (isIn_q hq) ?_
  rintro v h2 ⟨rfl, rfl⟩
  cases b : decide ((nI td).toInt ≤ fd.toInt ∧ fd.toInt ≤ (999 : Int32).toInt) with
  | false =>
    have db := of_decide_eq_false b
    rw [tdi] at db
    have e9 : (999 : Int32).toInt = 999 := rfl
    rw [e9] at db
    refine xq_n 39 [] [] [.int (-1000)] h1 [false] 4 hq rfl ⟨rfl, trivial⟩ (fun hq => ?_)
    refine xq_ret rfl rfl rfl ⟨fx_w g1 (fun _ _ => sA0_w) (fun _ _ _ => rfl), fun _ => fx_w g1 (fun _ _ => sA0_x) (fun _ _ _ => rfl), fun z => absurd ?_ z⟩
    by_cases z1 : (td : Int) ≤ fd.toInt
    · exact Or.inr (Or.inr (by omega))
    · exact Or.inr (Or.inl (by omega))
  | true =>
    have db := of_decide_eq_true b
    rw [tdi] at db
    have e9 : (999 : Int32).toInt = 999 := rfl
    rw [e9] at db
    have nsr : ¬ sref sc td fd := by
      rintro (z | z | z) <;> omega
    obtain ⟨j, hX⟩ := hX nsr
    refine xq_n 61 [0, 1] [(0, .ref 39), (1, .int fd)] [.ref 39] (xh_ui (xh_ui (xh_ui (xh_ui h1 39 13 (Int32.ofInt 0)) 39 26 (Int32.ofInt 0)) 39 27 (Int32.ofInt 0)) 39 7 (Int32.ofInt 0)) [true] 16 hq rfl ⟨rfl, trivial⟩ (fun _ => ?_)
    have hq : a_rq a_tb (xh_ui (xh_ui (xh_ui (xh_ui h1 39 13 (Int32.ofInt 0)) 39 26 (Int32.ofInt 0)) 39 27 (Int32.ofInt 0)) 39 7 (Int32.ofInt 0)) := a_rq_ui (a_rq_ui (a_rq_ui (a_rq_ui hq)))
    have g2 : fx sA1 fN h1 (xh_ui (xh_ui (xh_ui (xh_ui h1 39 13 (Int32.ofInt 0)) 39 26 (Int32.ofInt 0)) 39 27 (Int32.ofInt 0)) 39 7 (Int32.ofInt 0)) := fx_ui (fx_ui (fx_ui (fx_ui fx_0 rfl) rfl) rfl) rfl
    have a33 := (fx_i (c := 39) (k := 33) g2 rfl).trans d33
    have a4 := (fx_i (c := 39) (k := 4) g2 rfl).trans d4
    have a6 := (fx_i (c := 39) (k := 6) g2 rfl).trans d6
    have a40 : ∀ k, k < n → T k < 256 ∧ xg 0 (xh_ui (xh_ui (xh_ui (xh_ui h1 39 13 (Int32.ofInt 0)) 39 26 (Int32.ofInt 0)) 39 27 (Int32.ofInt 0)) 39 7 (Int32.ofInt 0)).2.1 40 k = nI (T k) := fun k hk' => ⟨(d40 k hk').1, (fx_i (c := 40) (k := k) g2 rfl).trans (d40 k hk').2⟩
    have a7 : xg 0 (xh_ui (xh_ui (xh_ui (xh_ui h1 39 13 (Int32.ofInt 0)) 39 26 (Int32.ofInt 0)) 39 27 (Int32.ofInt 0)) 39 7 (Int32.ofInt 0)).2.1 39 7 = nI 0 := gx_s
    have a27 : xg 0 (xh_ui (xh_ui (xh_ui (xh_ui h1 39 13 (Int32.ofInt 0)) 39 26 (Int32.ofInt 0)) 39 27 (Int32.ofInt 0)) 39 7 (Int32.ofInt 0)).2.1 39 27 = nI 0 := (gx_k (by decide)).trans gx_s
    have a26 : xg 0 (xh_ui (xh_ui (xh_ui (xh_ui h1 39 13 (Int32.ofInt 0)) 39 26 (Int32.ofInt 0)) 39 27 (Int32.ofInt 0)) 39 7 (Int32.ofInt 0)).2.1 39 26 = nI 0 := (gx_k (by decide)).trans ((gx_k (by decide)).trans gx_s)
    have a13 : xg 0 (xh_ui (xh_ui (xh_ui (xh_ui h1 39 13 (Int32.ofInt 0)) 39 26 (Int32.ofInt 0)) 39 27 (Int32.ofInt 0)) 39 7 (Int32.ofInt 0)).2.1 39 13 = nI 0 := (gx_k (by decide)).trans ((gx_k (by decide)).trans ((gx_k (by decide)).trans gx_s))
    generalize xh_ui (xh_ui (xh_ui (xh_ui h1 39 13 (Int32.ofInt 0)) 39 26 (Int32.ofInt 0)) 39 27 (Int32.ofInt 0)) 39 7 (Int32.ofInt 0) = h2 at hq a33 a4 a6 a40 a7 a27 a26 a13 g2 ⊢
    have hr : rtp h2 T n := ⟨a6, n6, a40⟩
    refine xq_run hq rfl rfl (go_q hq hr a7 (Nat.zero_le _)) ?_
    rintro v h3 ⟨rfl, g3, t3⟩
    have hq := fx_q g3 hq
    have r0 : rq0 h3 T n mem 0 W 0 0 := ⟨rtp_f hr g3 rfl (fun _ => rfl), t3, (fx_i g3 rfl).trans a4, m12, ⟨(fx_i g3 rfl).trans a26, by decide, fun k hk' => absurd hk' (Nat.not_lt_zero k)⟩, (fx_i g3 rfl).trans a27, by decide, (fx_i g3 rfl).trans a13⟩
    have gh : fx (rW3 sc) rV h h3 := fx_t (fx_t (fx_w g1 (fun _ _ => sA0_w) (fun _ _ _ => rfl)) (fx_w g2 (fun _ _ => sA1_w) (fun _ _ _ => rfl))) (fx_w g3 (fun _ _ z => gS_r (rS_t (rT_u (rU_w2 (rW3_w z))))) (fun _ _ z => gL_v z))
    have gu : fx (fun c _ => Nat.beq c 39) rV h h3 := fx_t (fx_t (fx_w g1 (fun _ _ => sA0_u) (fun _ _ _ => rfl)) (fx_w g2 (fun _ _ => sA1_u) (fun _ _ _ => rfl))) (fx_w g3 (fun _ _ z => gS_u z) (fun _ _ z => gL_v z))
    have k3 : xg 0 h3.2.1 39 3 = nI td := (fx_i g3 rfl).trans ((fx_i g2 rfl).trans d3)
    have k45 : xg 0 h3.2.1 45 sv = bl one0 := (fx_i gu rfl).trans d45
    have M1 := st_642 (fd := fd) (h0 := h3) (by omega) j 0 0 0 W f h3 hX r0 hq fx_0 ((fx_i g3 rfl).trans a33)
    cases r with
    | inr e =>
      refine xq_mono M1 (fun v h' e => ⟨fx_t gh (fx_w e.1 (fun _ _ => rW3_w) (fun _ _ z => z)), fun z => absurd z nsr, fun _ => ⟨fun _ z => (by cases z), fun _ _ z => e.2.2 _ _ z⟩⟩)
    | inl m =>
      obtain ⟨j2, hT2⟩ := hV nsr m rfl
      refine xq_mono (xq_and M1 (st_64d (fd := fd) s4 (by omega) j2 0 0 0 W NV one0 f h3 hT2 r0 (fun k hk' => absurd hk' (Nat.not_lt_zero k)) k45 hq ((fx_i g3 rfl).trans a33))) (fun v h' e => ?_)
      refine ⟨fx_t gh (fx_w e.1.1 (fun _ _ => rW3_w) (fun _ _ z => z)), fun z => absurd z nsr, fun _ => ⟨fun _ _ => ?_, fun _ _ z => (by cases z)⟩⟩
      obtain ⟨q1, q2, q3⟩ := e.1.2.1 m rfl
      exact ⟨q1, q2, q3.trans k3, e.2⟩
end XDW
