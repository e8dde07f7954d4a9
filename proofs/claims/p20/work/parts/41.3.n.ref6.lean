section XRK
variable {T : Nat → Nat} {n mem nn : Nat} {NW : Nat → Nat}
/-- behind the bodies -/
def Fin_ (T : Nat → Nat) (n mem p o nn : Nat) (NW : Nat → Nat) (r : Sum Nat (Nat × Nat)) : Prop := if ky T n p 1 = false then r = .inr (1, tks T n p) else ∃ q, RLq T n mem nn NW p o q ∧ ((∃ k pl, q = .inr (k, pl) ∧ r = .inr (k, pl)) ∨ ∃ p' o', q = .inl (p', o') ∧ r = (if rkk T n p' = 0 then .inl nn else .inr (1, tks T n p')))
/-- A TEXT IS READ: how many names, or a fault and its place -/
def Tx (T : Nat → Nat) (n mem : Nat) : Nat → Nat → Nat → Nat → (Nat → Nat) → Sum Nat (Nat × Nat) → Prop
  | 0, p, o, nn, NW, r => ky T n p 0 = false ∧ Fin_ T n mem p o nn NW r
  | j + 1, p, o, nn, NW, r => ky T n p 0 = true ∧ ∃ b, Bdy T n mem nn NW p o b ∧ ((∃ k pl, b = .inr (k, pl) ∧ r = .inr (k, pl)) ∨ ∃ p' o' w, b = .inl (p', o', w) ∧ Tx T n mem j p' o' (nn + 1) (upN NW nn w) r)
/-- what a statute may change -/
def rW (c k : Nat) : Bool := rU c k || ((Nat.beq c 39 && Nat.beq k 33) || (Nat.beq c 44 || (Nat.beq c 51 || Nat.beq c 52)))
theorem rU_w {c k : Nat} (h : rW c k = false) : rU c k = false := (or_f h).1
def st_Q (h0 : xh_H) (sc : Nat) (fd : Int32) (r : Sum Nat (Nat × Nat)) (v : Option Value) (h' : xh_H) : Prop := fx rW rV h0 h' ∧ (∀ m, r = .inl m → v = some (.int (nI m)) ∧ xg 0 h'.2.1 39 33 = nI (sc + 1) ∧ xg 0 h'.2.1 39 13 = nI 0) ∧ ∀ k pl, r = .inr (k, pl) → v = some (.int (Int32.ofInt (-1) - nI pl)) ∧ xg 0 h'.2.1 39 33 = nI sc ∧ xg 0 h'.2.1 39 13 = nI k
set_option maxRecDepth 100000 in
set_option maxHeartbeats 4000000 in
theorem sl_141 {h0 : xh_H} {fd : Int32} {Q : Option Value → xh_H → Prop} (K : ∀ (f : Nat) (x : Int32) (h : xh_H), a_rq a_tb h → fx (fun c _ => Nat.beq c 44) fN h0 h → xq f xi_X10_statute xmi_X10_statute 175 [(0, .ref 39), (1, .int fd), (3, .int x)] [] h Q) : ∀ (f : Nat) (x : Int32) (h : xh_H), a_rq a_tb h → fx (fun c _ => Nat.beq c 44) fN h0 h → xq f xi_X10_statute xmi_X10_statute 141 [(0, .ref 39), (1, .int fd), (3, .int x)] [] h Q := by
  intro f
  induction f with
  | zero => intros; exact xq_0
  | succ f ih =>
    intro x h hq g0
    cases c1 : xe_c .ge x 4096 with
    | true =>
      refine xq_m 175 [0, 1, 3] [(0, .ref 39), (1, .int fd), (3, .int x)] [] h [true] 5 hq rfl ⟨c1, trivial⟩ (fun hq => ?_)
      exact K f _ _ hq g0
    | false =>
      refine xq_m 141 [0, 1, 3] [(0, .ref 39), (1, .int fd), (3, .int (x + Int32.ofInt 1))] [] (xh_ui h 44 (((4096 * (xg 0 h.2.1 39 33)) + x).toNatClampNeg) (vp_nar .boolean (xg 0 h.2.1 45 x.toNatClampNeg))) [false] 20 hq rfl ⟨c1, trivial⟩ (fun _ => ?_)
      have hq : a_rq a_tb (xh_ui h 44 (((4096 * (xg 0 h.2.1 39 33)) + x).toNatClampNeg) (vp_nar .boolean (xg 0 h.2.1 45 x.toNatClampNeg))) := a_rq_ui hq
      exact ih _ _ hq (fx_t g0 (fx_ui (fx_0) rfl))
set_option maxRecDepth 100000 in
set_option maxHeartbeats 4000000 in
/-- the text is accepted -/
theorem st_ok {f sc m : Nat} {fd : Int32} {h0 h : xh_H} (hq : a_rq a_tb h) (g0 : fx rU rV h0 h) (e33 : xg 0 h.2.1 39 33 = nI sc) (sc8 : sc < 8) (e26 : xg 0 h.2.1 39 26 = nI m) (e13 : xg 0 h.2.1 39 13 = nI 0) : xq f xi_X10_statute xmi_X10_statute 139 [(0, .ref 39), (1, .int fd)] [] h (st_Q h0 sc fd (.inl m)) := by
  refine xq_n 141 [0, 1, 3] [(0, .ref 39), (1, .int fd), (3, .int (Int32.ofInt 0))] [] h [] 4 hq rfl trivial (fun hq => ?_)
  refine sl_141 (fun f x h1 hq g1 => ?_) f _ _ hq fx_0
  have f33 : xg 0 h1.2.1 39 33 = nI sc := (fx_i g1 rfl).trans e33
  have f26 : xg 0 h1.2.1 39 26 = nI m := (fx_i g1 rfl).trans e26
  have f13 : xg 0 h1.2.1 39 13 = nI 0 := (fx_i g1 rfl).trans e13
  refine xq_n 185 [0] [(0, .ref 39)] [] (xh_ui h1 51 (xg 0 h1.2.1 39 33).toNatClampNeg fd) [] 8 hq rfl trivial (fun _ => ?_)
  rw [f33, show (nI sc).toNatClampNeg = sc from nI_clamp (by omega)]
  have hq : a_rq a_tb (xh_ui h1 51 sc fd) := a_rq_ui hq
  have d33 : xg 0 (xh_ui h1 51 sc fd).2.1 39 33 = nI sc := (gx_o (by decide)).trans f33
  have d26 : xg 0 (xh_ui h1 51 sc fd).2.1 39 26 = nI m := (gx_o (by decide)).trans f26
  have d13 : xg 0 (xh_ui h1 51 sc fd).2.1 39 13 = nI 0 := (gx_o (by decide)).trans f13
  have g2 : fx rW rV h0 (xh_ui h1 51 sc fd) := fx_ui (fx_t (fx_w g0 (fun _ _ => rU_w) (fun _ _ z => z)) (fx_w g1 (fun c k z => (or_f (or_f (or_f z).2).2).1) (fun _ _ _ => rfl))) rfl
  generalize xh_ui h1 51 sc fd = h2 at hq d33 d26 d13 g2 ⊢
  refine xq_n 198 [0] [(0, .ref 39)] [] (xh_ui h2 52 (xg 0 h2.2.1 39 33).toNatClampNeg (xg 0 h2.2.1 39 3)) [] 9 hq rfl trivial (fun _ => ?_)
  rw [d33, show (nI sc).toNatClampNeg = sc from nI_clamp (by omega)]
  have hq : a_rq a_tb (xh_ui h2 52 sc (xg 0 h2.2.1 39 3)) := a_rq_ui hq
  have c33 : xg 0 (xh_ui h2 52 sc (xg 0 h2.2.1 39 3)).2.1 39 33 = nI sc := (gx_o (by decide)).trans d33
  have c26 : xg 0 (xh_ui h2 52 sc (xg 0 h2.2.1 39 3)).2.1 39 26 = nI m := (gx_o (by decide)).trans d26
  have c13 : xg 0 (xh_ui h2 52 sc (xg 0 h2.2.1 39 3)).2.1 39 13 = nI 0 := (gx_o (by decide)).trans d13
  have g3 : fx rW rV h0 (xh_ui h2 52 sc (xg 0 h2.2.1 39 3)) := fx_ui g2 rfl
  generalize xh_ui h2 52 sc (xg 0 h2.2.1 39 3) = h3 at hq c33 c26 c13 g3 ⊢
  refine xq_n 212 [] [] [.int (xg 0 (xh_ui h3 39 33 ((xg 0 h3.2.1 39 33) + (Int32.ofInt 1))).2.1 39 26)] (xh_ui h3 39 33 ((xg 0 h3.2.1 39 33) + (Int32.ofInt 1))) [] 11 hq rfl trivial (fun _ => ?_)
  rw [gx_k (by decide), c26, c33, show nI sc + Int32.ofInt 1 = nI (sc + 1) from nI_1 _]
  refine xq_ret rfl rfl rfl ⟨fx_ui g3 rfl, fun _ e => ?_, fun _ _ e => (by cases e)⟩
  cases e
  exact ⟨rfl, gx_s, (gx_k (by decide)).trans c13⟩
set_option maxRecDepth 100000 in
set_option maxHeartbeats 4000000 in
theorem st_bad {f sc k pl : Nat} {fd : Int32} {h0 h : xh_H} (hq : a_rq a_tb h) (g0 : fx rU rV h0 h) (e33 : xg 0 h.2.1 39 33 = nI sc) (e13 : xg 0 h.2.1 39 13 = nI k) (e14 : xg 0 h.2.1 39 14 = nI pl) : xq f xi_X10_statute xmi_X10_statute 132 [(0, .ref 39), (1, .int fd)] [] h (st_Q h0 sc fd (.inr (k, pl))) := by
  refine xq_n 138 [] [] [.int ((Int32.ofInt (-1)) - (xg 0 h.2.1 39 14))] h [] 6 hq rfl trivial (fun hq => ?_)
  rw [e14]
  refine xq_ret rfl rfl rfl ⟨fx_w g0 (fun _ _ => rU_w) (fun _ _ z => z), fun _ e => (by cases e), fun _ _ e => ?_⟩
  cases e
  exact ⟨rfl, e33, e13⟩
set_option maxRecDepth 100000 in
set_option maxHeartbeats 4000000 in
theorem st_fin {f sc p o : Nat} {fd : Int32} {h0 h : xh_H} {r : Sum Nat (Nat × Nat)} (hF : Fin_ T n mem p o nn NW r) (r0 : rq0 h T n mem nn NW p o) (hq : a_rq a_tb h) (g0 : fx rU rV h0 h) (e33 : xg 0 h.2.1 39 33 = nI sc) (sc8 : sc < 8) : xq f xi_X10_statute xmi_X10_statute 85 [(0, .ref 39), (1, .int fd)] [] h (st_Q h0 sc fd r) := by
  have hT : ∀ k, k < n → T k < 256 := fun k hk' => (r0.1.2.2 k hk').1
  unfold Fin_ at hF
  refine xq_n 86 [0, 1] [(0, .ref 39), (1, .int fd)] [.ref 39] h [] 3 hq rfl trivial (fun hq => ?_)
  refine xq_run hq rfl rfl (rw1_q hT r0.2.1 hq) ?_
  rintro v h1 ⟨rfl, rfl⟩
  cases b : ky T n p 1 with
  | false =>
    rw [if_pos b] at hF
    subst hF
    refine xq_n 94 [0, 1] [(0, .ref 39), (1, .int fd)] [.int (Int32.ofInt 1), .ref 39] h [false] 5 hq rfl ⟨rfl, trivial⟩ (fun hq => ?_)
    refine xq_run hq rfl rfl (bad_q (k := 1) hT r0.2.1 hq) ?_
    rintro v h2 ⟨rfl, g2, f2, l2⟩
    have hq := fx_q g2 hq
    rw [show (if rkk T n p = 1 then 1 else 1) = 1 by split <;> rfl] at f2
    refine xq_n 132 [0, 1] [(0, .ref 39), (1, .int fd)] [] h2 [true, true] 8 hq rfl ⟨rfl, by decide, trivial⟩ (fun hq => ?_)
    exact st_bad hq (fx_t g0 (fx_w g2 (fun _ _ z => bS_r (rS_t (rT_u z))) (fun _ _ _ => rfl))) ((fx_i g2 rfl).trans e33) f2 l2
  | true =>
    rw [if_neg (by rw [b]; decide)] at hF
    obtain ⟨q, hR, hq2⟩ := hF
    have nz : tkk T n p ≠ 0 := by have := (of_decide_eq_true b).1; omega
    refine xq_n 111 [0, 1] [(0, .ref 39), (1, .int fd)] [.ref 39] h [true, false] 9 hq rfl ⟨rfl, by decide, trivial⟩ (fun hq => ?_)
    refine xq_run hq rfl rfl (rrl_q hR r0 nz hq) ?_
    rintro v h2 ⟨g2, q1, q2⟩
    have hq := fx_q g2 hq
    have g3 : fx rU rV h0 h2 := fx_t g0 (fx_w g2 (fun _ _ => rT_u) (fun _ _ => gL_v))
    have f33 : xg 0 h2.2.1 39 33 = nI sc := (fx_i g2 rfl).trans e33
    rcases hq2 with ⟨k, pl, rfl, rfl⟩ | ⟨p', o', rfl, rfl⟩
    · obtain ⟨rfl, f1, f2⟩ := q2 _ _ rfl
      refine xq_n 132 [0, 1] [(0, .ref 39), (1, .int fd)] [] h2 [true] 3 hq rfl ⟨rfl, trivial⟩ (fun hq => ?_)
      exact st_bad hq g3 f33 f1 f2
    · obtain ⟨rfl, s1, s2, s3, s4, s5, s6, s7, s8⟩ := q1 _ _ rfl
      have rb := (rkk_k (T := T) (n := n) (p := p')).1
      by_cases hz : rkk T n p' = 0
      · rw [if_pos hz]
        refine xq_n 139 [0, 1] [(0, .ref 39), (1, .int fd)] [] h2 [false, true] 6 hq rfl ⟨rfl, (show xe_c .eq (xg 0 h2.2.1 39 9) 0 = true by rw [s2.2.1, hz]; rfl), trivial⟩ (fun hq => ?_)
        exact st_ok hq g3 f33 sc8 s5.1 s8
      · rw [if_neg hz]
        refine xq_n 126 [0, 1] [(0, .ref 39), (1, .int fd)] [.int (Int32.ofInt 1), .ref 39] h2 [false, false] 8 hq rfl ⟨rfl, (show xe_c .eq (xg 0 h2.2.1 39 9) 0 = false by rw [s2.2.1]; exact xeq_f (by rw [nI_toInt (by omega)]; show ((rkk T n p' : Nat) : Int) ≠ 0; omega)), trivial⟩ (fun hq => ?_)
        refine xq_run hq rfl rfl (bad_q (k := 1) hT s2 hq) ?_
        rintro v h3 ⟨rfl, g4, f4, l4⟩
        have hq := fx_q g4 hq
        rw [show (if rkk T n p' = 1 then 1 else 1) = 1 by split <;> rfl] at f4
        refine xq_n 132 [0, 1] [(0, .ref 39), (1, .int fd)] [] h3 [false] 3 hq rfl ⟨rfl, trivial⟩ (fun hq => ?_)
        exact st_bad hq (fx_t g3 (fx_w g4 (fun _ _ z => bS_r (rS_t (rT_u z))) (fun _ _ _ => rfl))) ((fx_i g4 rfl).trans f33) f4 l4
set_option maxRecDepth 100000 in
set_option maxHeartbeats 4000000 in
theorem st_64 {sc : Nat} {fd : Int32} {h0 : xh_H} {r : Sum Nat (Nat × Nat)} (sc8 : sc < 8) : ∀ (j p o nn : Nat) (NW : Nat → Nat) (f : Nat) (h : xh_H), Tx T n mem j p o nn NW r → rq0 h T n mem nn NW p o → a_rq a_tb h → fx rU rV h0 h → xg 0 h.2.1 39 33 = nI sc → xq f xi_X10_statute xmi_X10_statute 64 [(0, .ref 39), (1, .int fd)] [] h (st_Q h0 sc fd r) := by
  intro j
  induction j with
  | zero =>
    intro p o nn NW f h hX r0 hq g0 e33
    have hT : ∀ k, k < n → T k < 256 := fun k hk' => (r0.1.2.2 k hk').1
    refine xq_n 65 [0, 1] [(0, .ref 39), (1, .int fd)] [.ref 39] h [] 3 hq rfl trivial (fun hq => ?_)
    refine xq_run hq rfl rfl (rw0_q hT r0.2.1 hq) ?_
    rintro v h1 ⟨rfl, rfl⟩
    rw [hX.1]
    refine xq_n 85 [0, 1] [(0, .ref 39), (1, .int fd)] [] h [true] 3 hq rfl ⟨rfl, trivial⟩ (fun hq => ?_)
    exact st_fin hX.2 r0 hq g0 e33 sc8
  | succ j ih =>
    intro p o nn NW f h hX r0 hq g0 e33
    have hT : ∀ k, k < n → T k < 256 := fun k hk' => (r0.1.2.2 k hk').1
    obtain ⟨hb, b, hB, hb2⟩ := hX
    have nz : tkk T n p ≠ 0 := by have := (of_decide_eq_true hb).1; omega
    refine xq_n 65 [0, 1] [(0, .ref 39), (1, .int fd)] [.ref 39] h [] 3 hq rfl trivial (fun hq => ?_)
    refine xq_run hq rfl rfl (rw0_q hT r0.2.1 hq) ?_
    rintro v h1 ⟨rfl, rfl⟩
    rw [hb]
    refine xq_n 72 [0, 1] [(0, .ref 39), (1, .int fd)] [.ref 39] h [false] 4 hq rfl ⟨rfl, trivial⟩ (fun hq => ?_)
    refine xq_run hq rfl rfl (rbd_q hB r0 nz hq) ?_
    rintro v h2 ⟨g2, q1, q2⟩
    have hq := fx_q g2 hq
    have f33 : xg 0 h2.2.1 39 33 = nI sc := (fx_i g2 rfl).trans e33
    rcases hb2 with ⟨k, pl, rfl, rfl⟩ | ⟨p', o', w, rfl, hX2⟩
    · obtain ⟨rfl, f1, f2⟩ := q2 _ _ rfl
      refine xq_n 84 [] [] [.int ((Int32.ofInt (-1)) - (xg 0 h2.2.1 39 14))] h2 [false] 7 hq rfl ⟨rfl, trivial⟩ (fun hq => ?_)
      rw [f2]
      refine xq_ret rfl rfl rfl ⟨fx_w (fx_t g0 g2) (fun _ _ => rU_w) (fun _ _ z => z), fun _ e => (by cases e), fun _ _ e => ?_⟩
      cases e
      exact ⟨rfl, f33, f1⟩
    · obtain ⟨rfl, r1⟩ := q1 _ _ _ rfl
      refine xq_n 64 [0, 1] [(0, .ref 39), (1, .int fd)] [] h2 [true] 3 hq rfl ⟨rfl, trivial⟩ (fun hq => ?_)
      exact ih _ _ _ _ f h2 hX2 r1 hq (fx_t g0 g2) f33
end XRK
