section XDB
variable {T : Nat → Nat} {n mem nn : Nat} {NW : Nat → Nat}
/-- what the reference holds of one set, level by level -/
def dfr (h : xh_H) (sv : Nat) : List Nat → List vF → Prop
  | [], [] => True
  | t :: fs, x :: ds => (t = 2 → xg 0 h.2.1 46 (4096 * fs.length + sv) = x.2.2.1 ∧ xg 0 h.2.1 48 fs.length = x.2.2.2.1 ∧ xg 0 h.2.1 49 fs.length = x.2.2.2.2) ∧ (t ≠ 2 → xg 0 h.2.1 41 (4096 * fs.length + sv) = bl x.1 ∧ xg 0 h.2.1 42 (4096 * fs.length + sv) = bl x.2.1) ∧ dfr h sv fs ds
  | _, _ => False
theorem dfr_5 {h h' : xh_H} {sv : Nat} (s4 : sv < 4096) : ∀ {fs : List Nat} {ds : List vF}, (∀ k, k < 4096 * fs.length → xg 0 h'.2.1 41 k = xg 0 h.2.1 41 k) → (∀ k, k < 4096 * fs.length → xg 0 h'.2.1 42 k = xg 0 h.2.1 42 k) → (∀ k, k < 4096 * fs.length → xg 0 h'.2.1 46 k = xg 0 h.2.1 46 k) → (∀ k, k < fs.length → xg 0 h'.2.1 48 k = xg 0 h.2.1 48 k) → (∀ k, k < fs.length → xg 0 h'.2.1 49 k = xg 0 h.2.1 49 k) → dfr h sv fs ds → dfr h' sv fs ds := by
  intro fs
  induction fs with
  | nil =>
    intro ds _ _ _ _ _ d
    cases ds with
    | nil => trivial
    | cons x ds => exact d
  | cons t fs ih =>
    intro ds e1 e2 e3 e4 e5 d
    cases ds with
    | nil => exact d
    | cons x ds =>
      have L : (t :: fs).length = fs.length + 1 := rfl
      rw [L] at e1 e2 e3 e4 e5
      refine ⟨fun z => ?_, fun z => ?_, ih (fun k hk' => e1 k (by omega)) (fun k hk' => e2 k (by omega)) (fun k hk' => e3 k (by omega)) (fun k hk' => e4 k (by omega)) (fun k hk' => e5 k (by omega)) d.2.2⟩
      · rw [e3 _ (by omega), e4 _ (by omega), e5 _ (by omega)]
        exact d.1 z
      · rw [e1 _ (by omega), e2 _ (by omega)]
        exact d.2.1 z
theorem dfr_39 {h : xh_H} {sv k : Nat} {x : Int32} (s4 : sv < 4096) {fs : List Nat} {ds : List vF} (d : dfr h sv fs ds) : dfr (xh_ui h 39 k x) sv fs ds := dfr_5 s4 (fun _ _ => gx_o (by decide)) (fun _ _ => gx_o (by decide)) (fun _ _ => gx_o (by decide)) (fun _ _ => gx_o (by decide)) (fun _ _ => gx_o (by decide)) d
theorem dfr_45 {h : xh_H} {sv k : Nat} {x : Int32} (s4 : sv < 4096) {fs : List Nat} {ds : List vF} (d : dfr h sv fs ds) : dfr (xh_ui h 45 k x) sv fs ds := dfr_5 s4 (fun _ _ => gx_o (by decide)) (fun _ _ => gx_o (by decide)) (fun _ _ => gx_o (by decide)) (fun _ _ => gx_o (by decide)) (fun _ _ => gx_o (by decide)) d
theorem dfr_go {h h' : xh_H} {sv : Nat} (s4 : sv < 4096) {fs : List Nat} {ds : List vF} (d : dfr h sv fs ds) (g : fx gS gL h h') : dfr h' sv fs ds := dfr_5 s4 (fun _ _ => fx_i g rfl) (fun _ _ => fx_i g rfl) (fun _ _ => fx_i g rfl) (fun _ _ => fx_i g rfl) (fun _ _ => fx_i g rfl) d
theorem dfr_48 {h : xh_H} {sv : Nat} {x : Int32} (s4 : sv < 4096) {t : Nat} {fs : List Nat} {ds : List vF} (d : dfr h sv (t :: fs) ds) : dfr (xh_ui h 48 fs.length x) sv (t :: fs) (vw x ds) := by
  cases ds with
  | nil => exact absurd d (by unfold dfr; exact id)
  | cons y ds =>
    obtain ⟨y1, y2, y3, y4, y5⟩ := y
    refine ⟨fun z => ⟨(gx_o (by decide)).trans (d.1 z).1, gx_s, (gx_o (by decide)).trans (d.1 z).2.2⟩, fun z => ⟨(gx_o (by decide)).trans (d.2.1 z).1, (gx_o (by decide)).trans (d.2.1 z).2⟩, dfr_5 s4 (fun _ _ => gx_o (by decide)) (fun _ _ => gx_o (by decide)) (fun _ _ => gx_o (by decide)) (fun k hk' => gx_k (by omega)) (fun _ _ => gx_o (by decide)) d.2.2⟩
/-- what opening a level may change -/
def oD (t c k : Nat) : Bool := (Nat.beq c 39 && ((Nat.ble 7 k && Nat.ble k 12) || Nat.beq k 29)) || (((Nat.beq c 41 || (Nat.beq c 42 || Nat.beq c 46)) && Nat.ble (4096 * t) k) || ((Nat.beq c 47 || (Nat.beq c 48 || Nat.beq c 49)) && Nat.beq k t))
theorem gS_oD {t c k : Nat} (h : oD t c k = false) : gS c k = false := by
  unfold oD at h
  unfold gS
  have h1 := (or_f h).1
  cases h2 : Nat.beq c 39 with
  | false => rfl
  | true => rw [h2] at h1; exact (or_f h1).1
theorem oDw1 {t k : Nat} (h : 4096 * t ≤ k) : oD t 41 k = true := by
  show (Nat.ble (4096 * t) k || false) = true
  rw [Nat.ble_eq.mpr h]
  rfl
theorem oDw2 {t k : Nat} (h : 4096 * t ≤ k) : oD t 42 k = true := by
  show (Nat.ble (4096 * t) k || false) = true
  rw [Nat.ble_eq.mpr h]
  rfl
theorem oDw6 {t k : Nat} (h : 4096 * t ≤ k) : oD t 46 k = true := by
  show (Nat.ble (4096 * t) k || false) = true
  rw [Nat.ble_eq.mpr h]
  rfl
theorem oDe7 {t : Nat} : oD t 47 t = true := by
  show Nat.beq t t = true
  exact Nat.beq_refl t
theorem oDe8 {t : Nat} : oD t 48 t = true := by
  show Nat.beq t t = true
  exact Nat.beq_refl t
theorem oDe9 {t : Nat} : oD t 49 t = true := by
  show Nat.beq t t = true
  exact Nat.beq_refl t
theorem oDn1 {t k : Nat} (h : k < 4096 * t) : oD t 41 k = false := by
  show (Nat.ble (4096 * t) k || false) = false
  rw [show Nat.ble (4096 * t) k = false from by rw [Bool.eq_false_iff]; intro z; have := Nat.ble_eq.mp z; omega]
  rfl
theorem oDn2 {t k : Nat} (h : k < 4096 * t) : oD t 42 k = false := by
  show (Nat.ble (4096 * t) k || false) = false
  rw [show Nat.ble (4096 * t) k = false from by rw [Bool.eq_false_iff]; intro z; have := Nat.ble_eq.mp z; omega]
  rfl
theorem oDn6 {t k : Nat} (h : k < 4096 * t) : oD t 46 k = false := by
  show (Nat.ble (4096 * t) k || false) = false
  rw [show Nat.ble (4096 * t) k = false from by rw [Bool.eq_false_iff]; intro z; have := Nat.ble_eq.mp z; omega]
  rfl
theorem oDn8 {t k : Nat} (h : k < t) : oD t 48 k = false := by
  show Nat.beq k t = false
  rw [Bool.eq_false_iff]; intro z; have := Nat.eq_of_beq_eq_true z; omega
theorem oDn9 {t k : Nat} (h : k < t) : oD t 49 k = false := by
  show Nat.beq k t = false
  rw [Bool.eq_false_iff]; intro z; have := Nat.eq_of_beq_eq_true z; omega
theorem dfr_op {h h' : xh_H} {sv : Nat} {L : Nat → Nat → Bool} (s4 : sv < 4096) {fs : List Nat} {ds : List vF} (d : dfr h sv fs ds) (g : fx (oD fs.length) L h h') : dfr h' sv fs ds := dfr_5 s4 (fun _ hk' => fx_i g (oDn1 hk')) (fun _ hk' => fx_i g (oDn2 hk')) (fun _ hk' => fx_i g (oDn6 hk')) (fun _ hk' => fx_i g (oDn8 hk')) (fun _ hk' => fx_i g (oDn9 hk')) d
/-- a loop over all sets, seen at one of them -/
theorem lp_w {h : xh_H} {c b i sv : Nat} {y a z : Int32} (v : xg 0 h.2.1 c (b + sv) = if sv < i then a else z) (e : i = sv → y = a) : xg 0 (xh_ui h c (b + i) y).2.1 c (b + sv) = if sv < i + 1 then a else z := by
  by_cases w : i = sv
  · rw [← w, gx_s, if_pos (by omega)]
    exact e w
  · rw [gx_k (by omega), v]
    by_cases u : sv < i
    · rw [if_pos u, if_pos (by omega)]
    · rw [if_neg u, if_neg (by omega)]
theorem lp_w0 {h : xh_H} {c i sv : Nat} {y a z : Int32} (v : xg 0 h.2.1 c sv = if sv < i then a else z) (e : i = sv → y = a) : xg 0 (xh_ui h c i y).2.1 c sv = if sv < i + 1 then a else z := by
  by_cases w : i = sv
  · rw [← w, gx_s, if_pos (by omega)]
    exact e w
  · rw [gx_k (by omega), v]
    by_cases u : sv < i
    · rw [if_pos u, if_pos (by omega)]
    · rw [if_neg u, if_neg (by omega)]
theorem lp_n {x a z : Int32} {i sv : Nat} (v : x = if sv < i then a else z) (e : i = sv → z = a) : x = if sv < i + 1 then a else z := by
  rw [v]
  by_cases w : i = sv
  · rw [if_neg (by omega), if_pos (by omega)]
    exact e w
  · by_cases u : sv < i
    · rw [if_pos u, if_pos (by omega)]
    · rw [if_neg u, if_neg (by omega)]
theorem lp_1 {x a z : Int32} {i sv : Nat} (v : x = if sv < i then a else z) (h : sv < i) : x = a := by rw [v, if_pos h]
theorem lp_0 {x z : Int32} {sv : Nat} (a : Int32) (v : x = z) : x = if sv < 0 then a else z := by rw [v, if_neg (by omega)]
theorem idx_a {t i : Nat} : 4096 * nI t + nI i = nI (4096 * t + i) := by
  show nI 4096 * nI t + nI i = nI (4096 * t + i)
  rw [← nI_mul2, nI_add]
def dQ (h' : xh_H) (sv : Nat) (r : aRs) (x : List vF × Bool) : Prop := ∀ aw p' o' fs', r = .inl (aw, p', o', fs') → dfr h' sv fs' x.1 ∧ xg 0 h'.2.1 45 sv = bl x.2
theorem dQ_l {h' : xh_H} {sv aw p' o' : Nat} {fs' : List Nat} {r : aRs} {x : List vF × Bool} (er : r = .inl (aw, p', o', fs')) (a : dfr h' sv fs' x.1) (b : xg 0 h'.2.1 45 sv = bl x.2) : dQ h' sv r x := by
  subst er
  intro _ _ _ _ e
  cases e
  exact ⟨a, b⟩
theorem dQ_r {h' : xh_H} {sv : Nat} {e : Nat × Nat} {r : aRs} {x : List vF × Bool} (er : r = .inr e) : dQ h' sv r x := fun _ _ _ _ z => by rw [er] at z; cases z
def dnm (h : xh_H) (sv nn : Nat) (NV : Nat → Bool) : Prop := ∀ k, k < nn → xg 0 h.2.1 43 (4096 * k + sv) = bl (NV k)
set_option maxRecDepth 100000 in
set_option maxHeartbeats 4000000 in
theorem opr_dl {n e t sv : Nat} {T : Nat → Nat} {h0 : xh_H} {z41 z42 : Int32} (he : e ≤ n) (t12 : t ≤ 12) (s4 : sv < 4096) : ∀ (f i : Nat) (h : xh_H), a_rq a_tb h → fx (oD t) gL h0 h → rtp h T n → xg 0 h.2.1 39 7 = nI e → xg 0 h.2.1 39 28 = nI t → i ≤ 4096 → xg 0 h.2.1 41 (4096 * t + sv) = (if sv < i then 0 else z41) → xg 0 h.2.1 42 (4096 * t + sv) = (if sv < i then 1 else z42) → xq f xi_X10_openRule xmi_X10_openRule 12 [(0, .ref 39), (2, .int (nI i))] [] h (fun v h' => fx (oD t) gL h0 h' ∧ xg 0 h'.2.1 41 (4096 * t + sv) = 0 ∧ xg 0 h'.2.1 42 (4096 * t + sv) = 1) := by
  intro f
  induction f with
  | zero => intros; exact xq_0
  | succ f ih =>
    intro i h hq g0 hc e7 e28 i6 w41 w42
    cases c1 : xe_c .ge (nI i) 4096 with
    | true =>
      have z1 : i ≥ 4096 := nq_get (a := i) (b := 4096) (by omega) (by omega) c1
      refine xq_m 63 [0, 2] [(0, .ref 39), (2, .int (nI i))] [.ref 39] (xh_ui h 39 29 (Int32.ofInt 1)) [true] 9 hq rfl ⟨c1, trivial⟩ (fun _ => ?_)
      have hq : a_rq a_tb (xh_ui h 39 29 (Int32.ofInt 1)) := a_rq_ui hq
      refine xq_run hq rfl rfl (go_q hq (rtp_f (S := oD t) (L := gL) hc (fx_ui (fx_0) rfl) rfl (fun _ => rfl)) ((gx_k (by decide)).trans (e7)) he) ?_
      rintro v2 h2 ⟨rfl, g2, -⟩
      have hq := fx_q g2 hq
      exact xq_ret rfl rfl rfl ⟨fx_t (fx_ui (g0) rfl) (fx_w g2 (fun _ _ => gS_oD) (fun _ _ z => z)), ((fx_i g2 rfl).trans (gx_o (by decide))).trans (lp_1 w41 (by omega)), ((fx_i g2 rfl).trans (gx_o (by decide))).trans (lp_1 w42 (by omega))⟩
    | false =>
      have z1 : i < 4096 := nq_gef (a := i) (b := 4096) (by omega) (by omega) c1
      refine xq_m 12 [0, 2] [(0, .ref 39), (2, .int ((nI i) + Int32.ofInt 1))] [] (xh_ui (xh_ui h 41 (((4096 * (xg 0 h.2.1 39 28)) + (nI i)).toNatClampNeg) (vp_nar .boolean (Int32.ofInt 0))) 42 (((4096 * (xg 0 (xh_ui h 41 (((4096 * (xg 0 h.2.1 39 28)) + (nI i)).toNatClampNeg) (vp_nar .boolean (Int32.ofInt 0))).2.1 39 28)) + (nI i)).toNatClampNeg) (vp_nar .boolean (Int32.ofInt 1))) [false] 27 hq rfl ⟨c1, trivial⟩ (fun _ => ?_)
      rw [show (xg 0 (xh_ui h 41 (((4096 * (xg 0 h.2.1 39 28)) + (nI i)).toNatClampNeg) (vp_nar .boolean (Int32.ofInt 0))).2.1 39 28) = (nI t) from (gx_o (by decide)).trans (e28)]
      rw [show (xg 0 h.2.1 39 28) = (nI t) from e28]
      rw [show ((4096 * (nI t)) + (nI i)) = nI (4096 * t + i) from idx_a]
      rw [show (vp_nar .boolean (Int32.ofInt 0)) = Int32.ofInt 0 from rfl]
      rw [show (vp_nar .boolean (Int32.ofInt 1)) = Int32.ofInt 1 from rfl]
      rw [show ((nI (4096 * t + i)).toNatClampNeg) = (4096 * t + i) from nI_clamp (by omega)]
      rw [show ((nI i) + Int32.ofInt 1) = nI (i + 1) from nI_1 _]
      have hq : a_rq a_tb (xh_ui (xh_ui h 41 (4096 * t + i) (Int32.ofInt 0)) 42 (4096 * t + i) (Int32.ofInt 1)) := a_rq_ui (a_rq_ui hq)
      exact ih (i + 1) _ hq (fx_ui (fx_ui (g0) (oDw1 (by omega))) (oDw2 (by omega))) (rtp_f (S := oD t) (L := gL) hc (fx_ui (fx_ui (fx_0) (oDw1 (by omega))) (oDw2 (by omega))) rfl (fun _ => rfl)) ((gx_o (by decide)).trans ((gx_o (by decide)).trans (e7))) ((gx_o (by decide)).trans ((gx_o (by decide)).trans (e28))) (by omega) ((gx_o (by decide)).trans (lp_w (w41) (fun _ => rfl))) (lp_w (((gx_o (by decide)).trans w42)) (fun _ => rfl))
set_option maxRecDepth 100000 in
set_option maxHeartbeats 4000000 in
theorem opr_d {f n e t sv : Nat} {a : Int32} {T : Nat → Nat} {h : xh_H} (s4 : sv < 4096) (t12 : t ≤ 12) (he : e ≤ n) (hq : a_rq a_tb h) (hc : rtp h T n) (e7 : xg 0 h.2.1 39 7 = nI e) (e28 : xg 0 h.2.1 39 28 = nI t) : xq f xi_X10_openRule xmi_X10_openRule 0 [(0, .ref 39), (1, .int a)] [] h (fun v h' => fx (oD t) gL h h' ∧ xg 0 h'.2.1 41 (4096 * t + sv) = 0 ∧ xg 0 h'.2.1 42 (4096 * t + sv) = 1) := by
  refine xq_n 12 [0, 2] [(0, .ref 39), (2, .int (Int32.ofInt 0))] [] (xh_ui h 47 ((xg 0 h.2.1 39 28).toNatClampNeg) a) [] 10 hq rfl trivial (fun _ => ?_)
  rw [show (xg 0 h.2.1 39 28) = (nI t) from e28]
  rw [show ((nI t).toNatClampNeg) = t from nI_clamp (by omega)]
  have hq : a_rq a_tb (xh_ui h 47 t a) := a_rq_ui hq
  exact opr_dl he t12 s4 f 0 _ hq (fx_ui (fx_0) oDe7) (rtp_f (S := oD t) (L := gL) hc (fx_ui (fx_0) oDe7) rfl (fun _ => rfl)) ((gx_o (by decide)).trans (e7)) ((gx_o (by decide)).trans (e28)) (by omega) (lp_0 _ rfl) (lp_0 _ rfl)
set_option maxRecDepth 100000 in
set_option maxHeartbeats 4000000 in
theorem opl_dl {n e t sv : Nat} {T : Nat → Nat} {h0 : xh_H} {z46 a : Int32} (he : e ≤ n) (t12 : t ≤ 12) (s4 : sv < 4096) : ∀ (f i : Nat) (h : xh_H), a_rq a_tb h → fx (oD t) gL h0 h → rtp h T n → xg 0 h.2.1 39 7 = nI e → xg 0 h.2.1 39 28 = nI t → i ≤ 4096 → xg 0 h.2.1 46 (4096 * t + sv) = (if sv < i then 0 else z46) → xg 0 h.2.1 48 t = 1 → xg 0 h.2.1 49 t = a → xq f xi_X10_openList xmi_X10_openList 32 [(0, .ref 39), (2, .int (nI i))] [] h (fun v h' => fx (oD t) gL h0 h' ∧ xg 0 h'.2.1 46 (4096 * t + sv) = 0 ∧ xg 0 h'.2.1 48 t = 1 ∧ xg 0 h'.2.1 49 t = a) := by
  intro f
  induction f with
  | zero => intros; exact xq_0
  | succ f ih =>
    intro i h hq g0 hc e7 e28 i6 w46 w48 w49
    cases c1 : xe_c .ge (nI i) 4096 with
    | true =>
      have z1 : i ≥ 4096 := nq_get (a := i) (b := 4096) (by omega) (by omega) c1
      refine xq_m 67 [0, 2] [(0, .ref 39), (2, .int (nI i))] [.ref 39] (xh_ui h 39 29 (Int32.ofInt 1)) [true] 9 hq rfl ⟨c1, trivial⟩ (fun _ => ?_)
      have hq : a_rq a_tb (xh_ui h 39 29 (Int32.ofInt 1)) := a_rq_ui hq
      refine xq_run hq rfl rfl (go_q hq (rtp_f (S := oD t) (L := gL) hc (fx_ui (fx_0) rfl) rfl (fun _ => rfl)) ((gx_k (by decide)).trans (e7)) he) ?_
      rintro v2 h2 ⟨rfl, g2, -⟩
      have hq := fx_q g2 hq
      exact xq_ret rfl rfl rfl ⟨fx_t (fx_ui (g0) rfl) (fx_w g2 (fun _ _ => gS_oD) (fun _ _ z => z)), ((fx_i g2 rfl).trans (gx_o (by decide))).trans (lp_1 w46 (by omega)), (fx_i g2 rfl).trans ((gx_o (by decide)).trans (w48)), (fx_i g2 rfl).trans ((gx_o (by decide)).trans (w49))⟩
    | false =>
      have z1 : i < 4096 := nq_gef (a := i) (b := 4096) (by omega) (by omega) c1
      refine xq_m 32 [0, 2] [(0, .ref 39), (2, .int ((nI i) + Int32.ofInt 1))] [] (xh_ui h 46 (((4096 * (xg 0 h.2.1 39 28)) + (nI i)).toNatClampNeg) (Int32.ofInt 0)) [false] 17 hq rfl ⟨c1, trivial⟩ (fun _ => ?_)
      rw [show (xg 0 h.2.1 39 28) = (nI t) from e28]
      rw [show ((4096 * (nI t)) + (nI i)) = nI (4096 * t + i) from idx_a]
      rw [show ((nI (4096 * t + i)).toNatClampNeg) = (4096 * t + i) from nI_clamp (by omega)]
      rw [show ((nI i) + Int32.ofInt 1) = nI (i + 1) from nI_1 _]
      have hq : a_rq a_tb (xh_ui h 46 (4096 * t + i) (Int32.ofInt 0)) := a_rq_ui hq
      exact ih (i + 1) _ hq (fx_ui (g0) (oDw6 (by omega))) (rtp_f (S := oD t) (L := gL) hc (fx_ui (fx_0) (oDw6 (by omega))) rfl (fun _ => rfl)) ((gx_o (by decide)).trans (e7)) ((gx_o (by decide)).trans (e28)) (by omega) (lp_w (w46) (fun _ => rfl)) ((gx_o (by decide)).trans (w48)) ((gx_o (by decide)).trans (w49))
set_option maxRecDepth 100000 in
set_option maxHeartbeats 4000000 in
theorem opl_d {f n e t sv : Nat} {a : Int32} {T : Nat → Nat} {h : xh_H} (s4 : sv < 4096) (t12 : t ≤ 12) (he : e ≤ n) (hq : a_rq a_tb h) (hc : rtp h T n) (e7 : xg 0 h.2.1 39 7 = nI e) (e28 : xg 0 h.2.1 39 28 = nI t) : xq f xi_X10_openList xmi_X10_openList 0 [(0, .ref 39), (1, .int a)] [] h (fun v h' => fx (oD t) gL h h' ∧ xg 0 h'.2.1 46 (4096 * t + sv) = 0 ∧ xg 0 h'.2.1 48 t = 1 ∧ xg 0 h'.2.1 49 t = a) := by
  refine xq_n 32 [0, 2] [(0, .ref 39), (2, .int (Int32.ofInt 0))] [] (xh_ui (xh_ui (xh_ui h 47 ((xg 0 h.2.1 39 28).toNatClampNeg) (Int32.ofInt 2)) 49 ((xg 0 (xh_ui h 47 ((xg 0 h.2.1 39 28).toNatClampNeg) (Int32.ofInt 2)).2.1 39 28).toNatClampNeg) a) 48 ((xg 0 (xh_ui (xh_ui h 47 ((xg 0 h.2.1 39 28).toNatClampNeg) (Int32.ofInt 2)) 49 ((xg 0 (xh_ui h 47 ((xg 0 h.2.1 39 28).toNatClampNeg) (Int32.ofInt 2)).2.1 39 28).toNatClampNeg) a).2.1 39 28).toNatClampNeg) (Int32.ofInt 1)) [] 22 hq rfl trivial (fun _ => ?_)
  rw [show (xg 0 (xh_ui (xh_ui h 47 ((xg 0 h.2.1 39 28).toNatClampNeg) (Int32.ofInt 2)) 49 ((xg 0 (xh_ui h 47 ((xg 0 h.2.1 39 28).toNatClampNeg) (Int32.ofInt 2)).2.1 39 28).toNatClampNeg) a).2.1 39 28) = (nI t) from (gx_o (by decide)).trans ((gx_o (by decide)).trans (e28))]
  rw [show (xg 0 (xh_ui h 47 ((xg 0 h.2.1 39 28).toNatClampNeg) (Int32.ofInt 2)).2.1 39 28) = (nI t) from (gx_o (by decide)).trans (e28)]
  rw [show (xg 0 h.2.1 39 28) = (nI t) from e28]
  rw [show ((nI t).toNatClampNeg) = t from nI_clamp (by omega)]
  have hq : a_rq a_tb (xh_ui (xh_ui (xh_ui h 47 t (Int32.ofInt 2)) 49 t a) 48 t (Int32.ofInt 1)) := a_rq_ui (a_rq_ui (a_rq_ui hq))
  exact opl_dl he t12 s4 f 0 _ hq (fx_ui (fx_ui (fx_ui (fx_0) oDe7) oDe9) oDe8) (rtp_f (S := oD t) (L := gL) hc (fx_ui (fx_ui (fx_ui (fx_0) oDe7) oDe9) oDe8) rfl (fun _ => rfl)) ((gx_o (by decide)).trans ((gx_o (by decide)).trans ((gx_o (by decide)).trans (e7)))) ((gx_o (by decide)).trans ((gx_o (by decide)).trans ((gx_o (by decide)).trans (e28)))) (by omega) (lp_0 _ rfl) (gx_s) ((gx_o (by decide)).trans (gx_s))
set_option maxRecDepth 100000 in
set_option maxHeartbeats 4000000 in
theorem bls_d {f p o a : Nat} {fs : List Nat} {h : xh_H} {sv : Nat} {ds : List vF} {one : Bool} (s4 : sv < 4096) (dt : dfr h sv fs ds) (d45 : xg 0 h.2.1 45 sv = bl one) (rr0 : rr h T n mem nn NW p o fs) (hq : a_rq a_tb h) : xq f xi_X10_beginList xmi_X10_beginList 0 [(0, .ref 39), (1, .int (nI a))] [] h (fun v h' => dQ h' sv (bls T n p o fs) (vL (nI a) :: ds, one)) := by
  have hT : ∀ k, k < n → T k < 256 := fun k hk' => (rr0.1.2.2 k hk').1
  have rt := rr0.2.1
  have rb := (rkk_k (T := T) (n := n) (p := p)).1
  have kb := tkk_lt (T := T) (n := n) (p := p) hT
  have o120 := rr0.2.2.2.2.2.2.1
  have f1 := rr0.2.2.2.2.2.2.2.2.1
  have n16 := rr0.2.2.2.2.1.2.1
  have f13 := rr0.2.2.2.2.2.2.2.2.2.1
  have n6 := rr0.1.2.1
  refine xq_n 1 [0, 1] [(0, .ref 39), (1, .int (nI a))] [.ref 39] h [] 3 hq rfl trivial (fun hq => ?_)
  refine xq_run hq rfl rfl (rw4_q hT (rt) hq) ?_
  rintro v1 h_v1 ⟨rfl, rfl⟩
  cases b2 : (ky T n p 4) with
  | true =>
    have db2 := of_decide_eq_true b2
    refine xq_n 14 [0, 1] [(0, .ref 39), (1, .int (nI a))] [.ref 39] h [true] 4 hq rfl ⟨rfl, trivial⟩ (fun hq => ?_)
    have nz3 : tkk T n p ≠ 0 := by omega
    have le3 := tke_le nz3
    refine xq_run hq rfl rfl (go_q hq (rr0.1) (rt.2.2.2.2.2 (by omega)) le3) ?_
    rintro v3 h3 ⟨rfl, g3, t3⟩
    have hq := fx_q g3 hq
    have rb3 := (rkk_k (T := T) (n := n) (p := tke T n p)).1
    have kb3 := tkk_lt (T := T) (n := n) (p := tke T n p) hT
    refine xq_n 20 [0, 1] [(0, .ref 39), (1, .int (nI a))] [.int 91, .ref 39] h3 [] 4 hq rfl trivial (fun hq => ?_)
    refine xq_run hq rfl rfl (rsg_q (c := 91) (by decide) (by decide) hT (t3) hq) ?_
    rintro v4 h_v4 ⟨rfl, rfl⟩
    cases b5 : (decide (tkk T n (tke T n p) = 91)) with
    | true =>
      have db5 := of_decide_eq_true b5
      cases c6 : xe_c .ne (nI (fs.length - 1)) 12 with
      | true =>
        have z6 : (fs.length - 1) ≠ 12 := nq_net (a := (fs.length - 1)) (b := 12) (by omega) (by omega) c6
        refine xq_n 59 [0, 1] [(0, .ref 39), (1, .int (nI a))] [.int (nI a), .ref 39] (xh_ui h3 39 28 ((xg 0 h3.2.1 39 28) + (Int32.ofInt 1))) [true, true] 15 hq rfl ⟨rfl, (show xe_c .ne (xg 0 h3.2.1 39 28) 12 = true by rw [show (xg 0 h3.2.1 39 28) = (nI (fs.length - 1)) from (fx_i g3 rfl).trans (rr0.2.2.2.2.2.2.2.1)]; exact c6), trivial⟩ (fun _ => ?_)
        rw [show (xg 0 h3.2.1 39 28) = (nI (fs.length - 1)) from (fx_i g3 rfl).trans (rr0.2.2.2.2.2.2.2.1)]
        rw [show ((nI (fs.length - 1)) + (Int32.ofInt 1)) = nI (fs.length - 1 + 1) from nI_1 _]
        rw [show (nI (fs.length - 1 + 1)) = nI fs.length from (by rw [show fs.length - 1 + 1 = fs.length by omega])]
        have hq : a_rq a_tb (xh_ui h3 39 28 (nI fs.length)) := a_rq_ui hq
        have nz7 : tkk T n (tke T n p) ≠ 0 := by omega
        refine xq_run hq rfl rfl (xq_and (opl_q (t := fs.length) (by omega) (tke_le nz7) hq (rtp_f (S := rS) (L := gL) rr0.1 (fx_ui (fx_t (fx_0) (fx_w g3 (fun _ _ => gS_r) (fun _ _ z => z))) rfl) rfl (fun _ => rfl)) ((gx_k (by decide)).trans (t3.2.2.2.2.2 (by omega))) (gx_s)) (opl_d (t := fs.length) s4 (by omega) (tke_le nz7) hq (rtp_f (S := rS) (L := gL) rr0.1 (fx_ui (fx_t (fx_0) (fx_w g3 (fun _ _ => gS_r) (fun _ _ z => z))) rfl) rfl (fun _ => rfl)) ((gx_k (by decide)).trans (t3.2.2.2.2.2 (by omega))) (gx_s))) ?_
        rintro v7 h7 ⟨⟨rfl, g7, t7, y7, a7⟩, dg7, k17, k27, k37⟩
        have hq := fx_q g7 hq
        refine xq_n 63 [] [] [.int (Int32.ofInt 1)] h7 [] 3 hq rfl trivial (fun hq => ?_)
        have er : bls T n p o fs = .inl (1, tke T n (tke T n p), o, 2 :: fs) := by
          unfold bls
          repeat (first | rw [if_pos (by omega)] | rw [if_neg (by omega)] | rw [if_pos b2] | rw [if_neg (by rw [b2]; decide)] | rw [if_pos b5] | rw [if_neg (by rw [b5]; decide)])
          try rfl
        exact xq_ret rfl rfl rfl (dQ_l er ⟨fun _ => ⟨k17, k27, k37⟩, fun z => absurd rfl z, dfr_op s4 (dfr_39 s4 (dfr_go s4 (dt) g3)) dg7⟩ ((fx_i dg7 rfl).trans ((gx_o (by decide)).trans ((fx_i g3 rfl).trans (d45)))))
      | false =>
        have z6 : (fs.length - 1) = 12 := nq_nef (a := (fs.length - 1)) (b := 12) (by omega) (by omega) c6
        refine xq_n 43 [0, 1] [(0, .ref 39), (1, .int (nI a))] [.int (Int32.ofInt 4), .ref 39] h3 [true, false] 9 hq rfl ⟨rfl, (show xe_c .ne (xg 0 h3.2.1 39 28) 12 = false by rw [show (xg 0 h3.2.1 39 28) = (nI (fs.length - 1)) from (fx_i g3 rfl).trans (rr0.2.2.2.2.2.2.2.1)]; exact c6), trivial⟩ (fun hq => ?_)
        refine xq_run hq rfl rfl (bad_q (k := 4) hT (t3) hq) ?_
        rintro v8 h8 ⟨rfl, g8, f8, l8⟩
        have hq := fx_q g8 hq
        rw [if_neg (show ¬ rkk T n (tke T n p) = 1 from fun e => by have e1 := rk1.mp e; omega)] at f8
        have er : bls T n p o fs = .inr (4, tks T n (tke T n p)) := by
          unfold bls
          repeat (first | rw [if_pos (by omega)] | rw [if_neg (by omega)] | rw [if_pos b2] | rw [if_neg (by rw [b2]; decide)] | rw [if_pos b5] | rw [if_neg (by rw [b5]; decide)])
          try rfl
        exact xq_ret rfl rfl rfl (dQ_r er)
    | false =>
      have db5 := of_decide_eq_false b5
      refine xq_n 28 [0, 1] [(0, .ref 39), (1, .int (nI a))] [.int (Int32.ofInt 1), .ref 39] h3 [false] 5 hq rfl ⟨rfl, trivial⟩ (fun hq => ?_)
      refine xq_run hq rfl rfl (bad_q (k := 1) hT (t3) hq) ?_
      rintro v9 h9 ⟨rfl, g9, f9, l9⟩
      have hq := fx_q g9 hq
      rw [show (if rkk T n (tke T n p) = 1 then 1 else 1) = 1 by split <;> rfl] at f9
      have er : bls T n p o fs = .inr (1, tks T n (tke T n p)) := by
        unfold bls
        repeat (first | rw [if_pos (by omega)] | rw [if_neg (by omega)] | rw [if_pos b2] | rw [if_neg (by rw [b2]; decide)] | rw [if_pos b5] | rw [if_neg (by rw [b5]; decide)])
        try rfl
      exact xq_ret rfl rfl rfl (dQ_r er)
  | false =>
    have db2 := of_decide_eq_false b2
    refine xq_n 9 [0, 1] [(0, .ref 39), (1, .int (nI a))] [.int (Int32.ofInt 1), .ref 39] h [false] 5 hq rfl ⟨rfl, trivial⟩ (fun hq => ?_)
    refine xq_run hq rfl rfl (bad_q (k := 1) hT (rt) hq) ?_
    rintro v10 h10 ⟨rfl, g10, f10, l10⟩
    have hq := fx_q g10 hq
    rw [show (if rkk T n p = 1 then 1 else 1) = 1 by split <;> rfl] at f10
    have er : bls T n p o fs = .inr (1, tks T n p) := by
      unfold bls
      repeat (first | rw [if_pos (by omega)] | rw [if_neg (by omega)] | rw [if_pos b2] | rw [if_neg (by rw [b2]; decide)])
      try rfl
    exact xq_ret rfl rfl rfl (dQ_r er)
set_option maxRecDepth 100000 in
set_option maxHeartbeats 4000000 in
theorem np_lp {nn w : Nat} {NW : Nat → Nat} {h : xh_H} (nm : nms h nn NW) (e15 : xg 0 h.2.2.1 39 15 = Int64.ofNat w) (hw : w < 282429536481) : ∀ (f k : Nat), a_rq a_tb h → k ≤ nn → (∀ j, j < k → NW j ≠ w) → xq f xi_X10_nameAtHand xmi_X10_nameAtHand 2 [(0, .ref 39), (1, .int (nI k))] [] h (nh_P h nn NW w) := by
  have n16 := nm.2.1
  intro f
  induction f with
  | zero => intros; exact xq_0
  | succ f ih =>
    intro k hq hk' ha
    cases c1 : xe_c .ge (nI k) (nI nn) with
    | true =>
      have z1 : k ≥ nn := nq_get (a := k) (b := nn) (by omega) (by omega) c1
      refine xq_m 33 [] [] [.int (Int32.ofInt (-1))] h [true] 7 hq rfl ⟨(show xe_c .ge (nI k) (xg 0 h.2.1 39 26) = true by rw [show (xg 0 h.2.1 39 26) = (nI nn) from nm.1]; exact c1), trivial⟩ (fun hq => ?_)
      exact xq_ret rfl rfl rfl ⟨rfl, Or.inl ⟨rfl, decide_eq_false (fun ⟨j, y1, y2⟩ => ha j (by omega) y2)⟩⟩
    | false =>
      have z1 : k < nn := nq_gef (a := k) (b := nn) (by omega) (by omega) c1
      have nwk := (nm.2.2 k (by omega)).1
      cases c2 : xe_c .ne (lg_cmp (Int64.ofNat (NW k)) (Int64.ofNat w)) 0 with
      | true =>
        have z2 : (NW k) ≠ w := fun y => xne_i c2 (lg0.mpr (by rw [y]))
        refine xq_m 2 [0, 1] [(0, .ref 39), (1, .int ((nI k) + Int32.ofInt 1))] [] h [false, true] 16 hq rfl ⟨(show xe_c .ge (nI k) (xg 0 h.2.1 39 26) = false by rw [show (xg 0 h.2.1 39 26) = (nI nn) from nm.1]; exact c1), (show xe_c .ne (lg_cmp (xg 0 h.2.2.1 50 ((nI k).toNatClampNeg)) (xg 0 h.2.2.1 39 15)) 0 = true by rw [show (xg 0 h.2.2.1 50 ((nI k).toNatClampNeg)) = (Int64.ofNat (NW k)) from (by rw [show ((nI k).toNatClampNeg) = k from nI_clamp (by omega)]; exact (nm.2.2 _ (by omega)).2), show (xg 0 h.2.2.1 39 15) = (Int64.ofNat w) from e15]; exact c2), trivial⟩ (fun hq => ?_)
        rw [show ((nI k) + Int32.ofInt 1) = nI (k + 1) from nI_1 _]
        exact ih (k + 1) hq (by omega) (fun j hj => by
          by_cases ek : j = k
          · rw [ek]; exact z2
          · exact ha j (by omega))
      | false =>
        have z2 : (NW k) = w := i64_inj (by omega) (by omega) (lg0.mp (xne_j c2))
        refine xq_m 25 [] [] [.int (nI k)] h [false, false] 15 hq rfl ⟨(show xe_c .ge (nI k) (xg 0 h.2.1 39 26) = false by rw [show (xg 0 h.2.1 39 26) = (nI nn) from nm.1]; exact c1), (show xe_c .ne (lg_cmp (xg 0 h.2.2.1 50 ((nI k).toNatClampNeg)) (xg 0 h.2.2.1 39 15)) 0 = false by rw [show (xg 0 h.2.2.1 50 ((nI k).toNatClampNeg)) = (Int64.ofNat (NW k)) from (by rw [show ((nI k).toNatClampNeg) = k from nI_clamp (by omega)]; exact (nm.2.2 _ (by omega)).2), show (xg 0 h.2.2.1 39 15) = (Int64.ofNat w) from e15]; exact c2), trivial⟩ (fun hq => ?_)
        have en := nmi_1 (NW := NW) (nn := nn) (i := k) (w := w) (by omega) ha z2
        exact xq_ret rfl rfl rfl ⟨rfl, Or.inr ⟨by omega, by rw [en], decide_eq_true ⟨k, by omega, z2⟩⟩⟩
set_option maxRecDepth 100000 in
set_option maxHeartbeats 4000000 in
theorem np_q {f nn w : Nat} {NW : Nat → Nat} {h : xh_H} (nm : nms h nn NW) (e15 : xg 0 h.2.2.1 39 15 = Int64.ofNat w) (hw : w < 282429536481) (hq : a_rq a_tb h) : xq f xi_X10_nameAtHand xmi_X10_nameAtHand 0 [(0, .ref 39)] [] h (nh_P h nn NW w) := by
  refine xq_n 2 [0, 1] [(0, .ref 39), (1, .int (Int32.ofInt 0))] [] h [] 4 hq rfl trivial (fun hq => ?_)
  exact np_lp nm e15 hw f 0 hq (Nat.zero_le _) (fun j hj => absurd hj (Nat.not_lt_zero j))
set_option maxRecDepth 100000 in
set_option maxHeartbeats 4000000 in
theorem bom_dl {p o sv m : Nat} {fs : List Nat} {ds : List vF} {y1 : Bool} {z45 x2 x3 : Int32} {hb : xh_H} (s4 : sv < 4096) (x2e : x2 = nI m) (m11 : m < 32) : ∀ (f i : Nat) (h : xh_H), fx (fun c _ => Nat.beq c 45) fN hb h → rr h T n mem nn NW p o fs → tkk T n p ≠ 0 → i ≤ 4096 → dfr h sv fs ds → xg 0 h.2.1 45 sv = (if sv < i then bl (sv.testBit m) else z45) → a_rq a_tb h → xq f xi_X10_beginOne xmi_X10_beginOne 235 [(0, .ref 39), (1, .int (Int32.ofInt 1)), (2, .int x2), (3, .int x3), (4, .int (nI i))] [] h (fun v h' => dfr h' sv fs ds ∧ xg 0 h'.2.1 45 sv = bl (sv.testBit m)) := by
  intro f
  induction f with
  | zero => intros; exact xq_0
  | succ f ih =>
    intro i h ge rr0 nz i6 dt w45 hq
    have hT : ∀ k, k < n → T k < 256 := fun k hk' => (rr0.1.2.2 k hk').1
    have rt := rr0.2.1
    have rb := (rkk_k (T := T) (n := n) (p := p)).1
    have kb := tkk_lt (T := T) (n := n) (p := p) hT
    have o120 := rr0.2.2.2.2.2.2.1
    have f1 := rr0.2.2.2.2.2.2.2.2.1
    have n16 := rr0.2.2.2.2.1.2.1
    have f13 := rr0.2.2.2.2.2.2.2.2.2.1
    have n6 := rr0.1.2.1
    cases c1 : xe_c .ge (nI i) 4096 with
    | true =>
      have z1 : i ≥ 4096 := nq_get (a := i) (b := 4096) (by omega) (by omega) c1
      refine xq_m 292 [0, 1, 2, 3, 4] [(0, .ref 39), (1, .int (Int32.ofInt 1)), (2, .int x2), (3, .int x3), (4, .int (nI i))] [.ref 39] h [true] 6 hq rfl ⟨c1, trivial⟩ (fun hq => ?_)
      have nz2 : tkk T n p ≠ 0 := by omega
      have le2 := tke_le nz2
      refine xq_run hq rfl rfl (go_q hq (rr0.1) (rt.2.2.2.2.2 (by omega)) le2) ?_
      rintro v2 h2 ⟨rfl, g2, t2⟩
      have hq := fx_q g2 hq
      have rb2 := (rkk_k (T := T) (n := n) (p := tke T n p)).1
      have kb2 := tkk_lt (T := T) (n := n) (p := tke T n p) hT
      refine xq_n 301 [] [] [.int (Int32.ofInt 1)] (xh_ui h2 39 29 (Int32.ofInt 0)) [] 6 hq rfl trivial (fun _ => ?_)
      have hq : a_rq a_tb (xh_ui h2 39 29 (Int32.ofInt 0)) := a_rq_ui hq
      exact xq_ret rfl rfl rfl ⟨dfr_39 s4 (dfr_go s4 (dt) g2), (gx_o (by decide)).trans ((fx_i g2 rfl).trans (lp_1 w45 (by omega)))⟩
    | false =>
      have z1 : i < 4096 := nq_gef (a := i) (b := 4096) (by omega) (by omega) c1
      cases c3 : xe_c .ne (((nI i) >>> (x2 &&& 31)) &&& (Int32.ofInt 1)) (Int32.ofInt 1) with
      | true =>
        refine xq_m 235 [0, 1, 2, 3, 4] [(0, .ref 39), (1, .int (Int32.ofInt 1)), (2, .int x2), (3, .int x3), (4, .int ((nI i) + Int32.ofInt 1))] [] (xh_ui h 45 ((nI i).toNatClampNeg) (vp_nar .boolean (Int32.ofInt 0))) [false, false, true] 22 hq rfl ⟨c1, (by decide), c3, trivial⟩ (fun _ => ?_)
        rw [show (vp_nar .boolean (Int32.ofInt 0)) = Int32.ofInt 0 from rfl]
        rw [show ((nI i).toNatClampNeg) = i from nI_clamp (by omega)]
        rw [show ((nI i) + Int32.ofInt 1) = nI (i + 1) from nI_1 _]
        have hq : a_rq a_tb (xh_ui h 45 i (Int32.ofInt 0)) := a_rq_ui hq
        exact ih (i + 1) _ (fx_ui ge rfl) ⟨rtp_f (S := rS) (L := gL) rr0.1 (fx_ui (fx_0) rfl) rfl (fun _ => rfl), rtk_ui (rt) rfl, (gx_o (by decide)).trans (rr0.2.2.1), rr0.2.2.2.1, nms_f (S := rS) (L := gL) rr0.2.2.2.2.1 (fx_ui (fx_0) rfl) rfl (fun _ => rfl), (gx_o (by decide)).trans (rr0.2.2.2.2.2.1), rr0.2.2.2.2.2.2.1, (gx_o (by decide)).trans (rr0.2.2.2.2.2.2.2.1), rr0.2.2.2.2.2.2.2.2.1, rr0.2.2.2.2.2.2.2.2.2.1, frs_c (fun k hk' => gx_o (by decide)) rr0.2.2.2.2.2.2.2.2.2.2.1, (gx_o (by decide)).trans (rr0.2.2.2.2.2.2.2.2.2.2.2)⟩ nz (by omega) (dfr_45 s4 (dt)) (lp_w0 w45 (fun e => by rw [← e]; have := c3; rw [x2e, nI_b0 (by omega) m11] at this; cases hb1 : i.testBit m <;> rw [hb1] at this <;> first | rfl | exact absurd this (by decide))) hq
      | false =>
        refine xq_m 235 [0, 1, 2, 3, 4] [(0, .ref 39), (1, .int (Int32.ofInt 1)), (2, .int x2), (3, .int x3), (4, .int ((nI i) + Int32.ofInt 1))] [] (xh_ui h 45 ((nI i).toNatClampNeg) (vp_nar .boolean (Int32.ofInt 1))) [false, false, false] 22 hq rfl ⟨c1, (by decide), c3, trivial⟩ (fun _ => ?_)
        rw [show (vp_nar .boolean (Int32.ofInt 1)) = Int32.ofInt 1 from rfl]
        rw [show ((nI i).toNatClampNeg) = i from nI_clamp (by omega)]
        rw [show ((nI i) + Int32.ofInt 1) = nI (i + 1) from nI_1 _]
        have hq : a_rq a_tb (xh_ui h 45 i (Int32.ofInt 1)) := a_rq_ui hq
        exact ih (i + 1) _ (fx_ui ge rfl) ⟨rtp_f (S := rS) (L := gL) rr0.1 (fx_ui (fx_0) rfl) rfl (fun _ => rfl), rtk_ui (rt) rfl, (gx_o (by decide)).trans (rr0.2.2.1), rr0.2.2.2.1, nms_f (S := rS) (L := gL) rr0.2.2.2.2.1 (fx_ui (fx_0) rfl) rfl (fun _ => rfl), (gx_o (by decide)).trans (rr0.2.2.2.2.2.1), rr0.2.2.2.2.2.2.1, (gx_o (by decide)).trans (rr0.2.2.2.2.2.2.2.1), rr0.2.2.2.2.2.2.2.2.1, rr0.2.2.2.2.2.2.2.2.2.1, frs_c (fun k hk' => gx_o (by decide)) rr0.2.2.2.2.2.2.2.2.2.2.1, (gx_o (by decide)).trans (rr0.2.2.2.2.2.2.2.2.2.2.2)⟩ nz (by omega) (dfr_45 s4 (dt)) (lp_w0 w45 (fun e => by rw [← e]; have := c3; rw [x2e, nI_b0 (by omega) m11] at this; cases hb1 : i.testBit m <;> rw [hb1] at this <;> first | rfl | exact absurd this (by decide))) hq
set_option maxRecDepth 100000 in
set_option maxHeartbeats 4000000 in
theorem bon_dl {p o sv m : Nat} {fs : List Nat} {ds : List vF} {y1 : Bool} {z45 x2 x3 : Int32} {hb : xh_H} (s4 : sv < 4096) (x3e : x3 = nI m) (m16 : m < 16) (dn : xg 0 hb.2.1 43 (4096 * m + sv) = bl y1) : ∀ (f i : Nat) (h : xh_H), fx (fun c _ => Nat.beq c 45) fN hb h → rr h T n mem nn NW p o fs → tkk T n p ≠ 0 → i ≤ 4096 → dfr h sv fs ds → xg 0 h.2.1 45 sv = (if sv < i then bl (y1) else z45) → a_rq a_tb h → xq f xi_X10_beginOne xmi_X10_beginOne 235 [(0, .ref 39), (1, .int (Int32.ofInt 0)), (2, .int x2), (3, .int x3), (4, .int (nI i))] [] h (fun v h' => dfr h' sv fs ds ∧ xg 0 h'.2.1 45 sv = bl (y1)) := by
  intro f
  induction f with
  | zero => intros; exact xq_0
  | succ f ih =>
    intro i h ge rr0 nz i6 dt w45 hq
    have hT : ∀ k, k < n → T k < 256 := fun k hk' => (rr0.1.2.2 k hk').1
    have rt := rr0.2.1
    have rb := (rkk_k (T := T) (n := n) (p := p)).1
    have kb := tkk_lt (T := T) (n := n) (p := p) hT
    have o120 := rr0.2.2.2.2.2.2.1
    have f1 := rr0.2.2.2.2.2.2.2.2.1
    have n16 := rr0.2.2.2.2.1.2.1
    have f13 := rr0.2.2.2.2.2.2.2.2.2.1
    have n6 := rr0.1.2.1
    cases c1 : xe_c .ge (nI i) 4096 with
    | true =>
      have z1 : i ≥ 4096 := nq_get (a := i) (b := 4096) (by omega) (by omega) c1
      refine xq_m 292 [0, 1, 2, 3, 4] [(0, .ref 39), (1, .int (Int32.ofInt 0)), (2, .int x2), (3, .int x3), (4, .int (nI i))] [.ref 39] h [true] 6 hq rfl ⟨c1, trivial⟩ (fun hq => ?_)
      have nz2 : tkk T n p ≠ 0 := by omega
      have le2 := tke_le nz2
      refine xq_run hq rfl rfl (go_q hq (rr0.1) (rt.2.2.2.2.2 (by omega)) le2) ?_
      rintro v2 h2 ⟨rfl, g2, t2⟩
      have hq := fx_q g2 hq
      have rb2 := (rkk_k (T := T) (n := n) (p := tke T n p)).1
      have kb2 := tkk_lt (T := T) (n := n) (p := tke T n p) hT
      refine xq_n 301 [] [] [.int (Int32.ofInt 1)] (xh_ui h2 39 29 (Int32.ofInt 0)) [] 6 hq rfl trivial (fun _ => ?_)
      have hq : a_rq a_tb (xh_ui h2 39 29 (Int32.ofInt 0)) := a_rq_ui hq
      exact xq_ret rfl rfl rfl ⟨dfr_39 s4 (dfr_go s4 (dt) g2), (gx_o (by decide)).trans ((fx_i g2 rfl).trans (lp_1 w45 (by omega)))⟩
    | false =>
      have z1 : i < 4096 := nq_gef (a := i) (b := 4096) (by omega) (by omega) c1
      refine xq_m 235 [0, 1, 2, 3, 4] [(0, .ref 39), (1, .int (Int32.ofInt 0)), (2, .int x2), (3, .int x3), (4, .int ((nI i) + Int32.ofInt 1))] [] (xh_ui h 45 ((nI i).toNatClampNeg) (vp_nar .boolean (xg 0 h.2.1 43 (((4096 * x3) + (nI i)).toNatClampNeg)))) [false, true] 21 hq rfl ⟨c1, (by decide), trivial⟩ (fun _ => ?_)
      rw [show (xg 0 h.2.1 43 (((4096 * x3) + (nI i)).toNatClampNeg)) = xg 0 h.2.1 43 (4096 * m + i) from (by rw [show ((4096 * x3) + (nI i)) = nI (4096 * m + i) from (by rw [x3e]; exact idx_a), show ((nI (4096 * m + i)).toNatClampNeg) = (4096 * m + i) from nI_clamp (by omega)])]
      rw [show ((nI i).toNatClampNeg) = i from nI_clamp (by omega)]
      rw [show ((nI i) + Int32.ofInt 1) = nI (i + 1) from nI_1 _]
      have hq : a_rq a_tb (xh_ui h 45 i (vp_nar .boolean (xg 0 h.2.1 43 (4096 * m + i)))) := a_rq_ui hq
      exact ih (i + 1) _ (fx_ui ge rfl) ⟨rtp_f (S := rS) (L := gL) rr0.1 (fx_ui (fx_0) rfl) rfl (fun _ => rfl), rtk_ui (rt) rfl, (gx_o (by decide)).trans (rr0.2.2.1), rr0.2.2.2.1, nms_f (S := rS) (L := gL) rr0.2.2.2.2.1 (fx_ui (fx_0) rfl) rfl (fun _ => rfl), (gx_o (by decide)).trans (rr0.2.2.2.2.2.1), rr0.2.2.2.2.2.2.1, (gx_o (by decide)).trans (rr0.2.2.2.2.2.2.2.1), rr0.2.2.2.2.2.2.2.2.1, rr0.2.2.2.2.2.2.2.2.2.1, frs_c (fun k hk' => gx_o (by decide)) rr0.2.2.2.2.2.2.2.2.2.2.1, (gx_o (by decide)).trans (rr0.2.2.2.2.2.2.2.2.2.2.2)⟩ nz (by omega) (dfr_45 s4 (dt)) (lp_w0 w45 (fun e => by rw [e, (fx_i ge rfl).trans dn]; exact bl_n)) hq
set_option maxRecDepth 100000 in
set_option maxHeartbeats 4000000 in
theorem bo_d {f p o : Nat} {fs : List Nat} {h : xh_H} {sv : Nat} {ds : List vF} {one : Bool} (s4 : sv < 4096) (dt : dfr h sv fs ds) (d45 : xg 0 h.2.1 45 sv = bl one) {NV : Nat → Bool} (dn : dnm h sv nn NV) (rr0 : rr h T n mem nn NW p o fs) (hq : a_rq a_tb h) : xq f xi_X10_beginOne xmi_X10_beginOne 0 [(0, .ref 39)] [] h (fun v h' => dQ h' sv (bo T n mem nn NW p o fs) (vbo T n nn NW sv NV p ds one)) := by
  have hT : ∀ k, k < n → T k < 256 := fun k hk' => (rr0.1.2.2 k hk').1
  have rt := rr0.2.1
  have rb := (rkk_k (T := T) (n := n) (p := p)).1
  have kb := tkk_lt (T := T) (n := n) (p := p) hT
  have o120 := rr0.2.2.2.2.2.2.1
  have f1 := rr0.2.2.2.2.2.2.2.2.1
  have n16 := rr0.2.2.2.2.1.2.1
  have f13 := rr0.2.2.2.2.2.2.2.2.2.1
  have n6 := rr0.1.2.1
  have t9 : tkn T n p ≤ 999 := vf_999
  have mm := rr0.2.2.2.1
  cases c1 : xe_c .ne (nI (rkk T n p)) (Int32.ofInt 2) with
  | true =>
    have z1 : (rkk T n p) ≠ 2 := nq_net (a := (rkk T n p)) (b := 2) (by omega) (by omega) c1
    have yc1 := mt (rk2 (T := T) (n := n) (p := p)).mpr z1
    cases c2 : xe_c .eq (nI (rkk T n p)) (Int32.ofInt 3) with
    | true =>
      have z2 : (rkk T n p) = 3 := nq_eqt (a := (rkk T n p)) (b := 3) (by omega) (by omega) c2
      have yc2 := (rk3 (T := T) (n := n) (p := p)).mp z2
      cases c3 : xe_c .ne (nI (tkn T n p)) 0 with
      | true =>
        have z3 : (tkn T n p) ≠ 0 := nq_net (a := (tkn T n p)) (b := 0) (by omega) (by omega) c3
        refine xq_n 102 [0, 1] [(0, .ref 39), (1, .int (Int32.ofInt 0))] [.ref 39] h [true, true, false, true, true] 22 hq rfl ⟨(show xe_c .ne (xg 0 h.2.1 39 9) (Int32.ofInt 2) = true by rw [show (xg 0 h.2.1 39 9) = (nI (rkk T n p)) from rt.2.1]; exact c1), (show xe_c .eq (xg 0 h.2.1 39 9) (Int32.ofInt 3) = true by rw [show (xg 0 h.2.1 39 9) = (nI (rkk T n p)) from rt.2.1]; exact c2), (show xe_c .ne (xg 0 h.2.1 39 9) (Int32.ofInt 3) = false by rw [show (xg 0 h.2.1 39 9) = (nI (rkk T n p)) from rt.2.1, z2]; rfl), (show xe_c .ne (xg 0 h.2.1 39 10) 0 = true by rw [show (xg 0 h.2.1 39 10) = (nI (tkn T n p)) from rt.2.2.2.1 (by omega)]; exact c3), (by decide), trivial⟩ (fun hq => ?_)
        refine xq_run hq rfl rfl (rnm_q hT (rt) hq) ?_
        rintro v4 h_v4 ⟨rfl, rfl⟩
        cases b5 : (nmt T n p) with
        | true =>
          have db5 := of_decide_eq_true b5
          omega
        | false =>
          have db5 := of_decide_eq_false b5
          cases c6 : xe_c .ne (nI o) 120 with
          | true =>
            have z6 : o ≠ 120 := nq_net (a := o) (b := 120) (by omega) (by omega) c6
            refine xq_n 140 [0, 1] [(0, .ref 39), (1, .int (Int32.ofInt 0))] [.int 40, .ref 39] h [true, true] 9 hq rfl ⟨rfl, (show xe_c .ne (xg 0 h.2.1 39 27) 120 = true by rw [show (xg 0 h.2.1 39 27) = (nI o) from rr0.2.2.2.2.2.1]; exact c6), trivial⟩ (fun hq => ?_)
            refine xq_run hq rfl rfl (rsg_q (c := 40) (by decide) (by decide) hT (rt) hq) ?_
            rintro v7 h_v7 ⟨rfl, rfl⟩
            cases b8 : (decide (tkk T n p = 40)) with
            | true =>
              have db8 := of_decide_eq_true b8
              omega
            | false =>
              have db8 := of_decide_eq_false b8
              refine xq_n 185 [0, 1, 2] [(0, .ref 39), (1, .int (Int32.ofInt 0)), (2, .int (xg 0 (xh_ui h 39 27 ((xg 0 h.2.1 39 27) + (Int32.ofInt 1))).2.1 39 10))] [.ref 39] (xh_ui h 39 27 ((xg 0 h.2.1 39 27) + (Int32.ofInt 1))) [true, false] 17 hq rfl ⟨rfl, (show xe_c .ne (xg 0 (xh_ui h 39 27 ((xg 0 h.2.1 39 27) + (Int32.ofInt 1))).2.1 39 9) (Int32.ofInt 3) = false by rw [show (xg 0 (xh_ui h 39 27 ((xg 0 h.2.1 39 27) + (Int32.ofInt 1))).2.1 39 9) = (nI (rkk T n p)) from (gx_k (by decide)).trans (rt.2.1), z2]; rfl), trivial⟩ (fun _ => ?_)
              rw [show (xg 0 (xh_ui h 39 27 ((xg 0 h.2.1 39 27) + (Int32.ofInt 1))).2.1 39 10) = (nI (tkn T n p)) from (gx_k (by decide)).trans (rt.2.2.2.1 (by omega))]
              rw [show (xg 0 h.2.1 39 27) = (nI o) from rr0.2.2.2.2.2.1]
              rw [show ((nI o) + (Int32.ofInt 1)) = nI (o + 1) from nI_1 _]
              have hq : a_rq a_tb (xh_ui h 39 27 (nI (o + 1))) := a_rq_ui hq
              have nz9 : tkk T n p ≠ 0 := by omega
              have le9 := tke_le nz9
              refine xq_run hq rfl rfl (go_q hq (rtp_f (S := rS) (L := gL) rr0.1 (fx_ui (fx_0) rfl) rfl (fun _ => rfl)) ((gx_k (by decide)).trans (rt.2.2.2.2.2 (by omega))) le9) ?_
              rintro v9 h9 ⟨rfl, g9, t9⟩
              have hq := fx_q g9 hq
              have rb9 := (rkk_k (T := T) (n := n) (p := tke T n p)).1
              have kb9 := tkk_lt (T := T) (n := n) (p := tke T n p) hT
              refine xq_n 190 [0, 1, 2] [(0, .ref 39), (1, .int (Int32.ofInt 0)), (2, .int (nI (tkn T n p)))] [.int (nI (tkn T n p)), .ref 39] h9 [] 4 hq rfl trivial (fun hq => ?_)
              have er : bo T n mem nn NW p o fs = bls T n (tke T n p) (o + 1) fs := by
                unfold bo
                repeat (first | rw [if_pos (by omega)] | rw [if_neg (by omega)] | rw [if_pos b5] | rw [if_neg (by rw [b5]; decide)] | rw [if_pos b8] | rw [if_neg (by rw [b8]; decide)] | rw [if_pos (show lone T n p = true from decide_eq_true (by omega))] | rw [if_neg (show ¬ lone T n p = true from fun e => by have := of_decide_eq_true e; omega)])
                try rfl
              have ev : vbo T n nn NW sv NV p ds one = (vL (nI (tkn T n p)) :: ds, one) := by unfold vbo; rw [if_pos (by omega)]
              refine xq_run hq rfl rfl (xq_and (bls_q ⟨rtp_f (S := rS) (L := gL) rr0.1 (fx_t (fx_ui (fx_0) rfl) (fx_w g9 (fun _ _ => gS_r) (fun _ _ z => z))) rfl (fun _ => rfl), t9, (fx_i g9 rfl).trans ((gx_k (by decide)).trans (rr0.2.2.1)), rr0.2.2.2.1, nms_f (S := rS) (L := gL) rr0.2.2.2.2.1 (fx_t (fx_ui (fx_0) rfl) (fx_w g9 (fun _ _ => gS_r) (fun _ _ z => z))) rfl (fun _ => rfl), (fx_i g9 rfl).trans (gx_s), by omega, (fx_i g9 rfl).trans ((gx_k (by decide)).trans (rr0.2.2.2.2.2.2.2.1)), rr0.2.2.2.2.2.2.2.2.1, rr0.2.2.2.2.2.2.2.2.2.1, frs_c (fun k hk' => (fx_i g9 rfl).trans (gx_o (by decide))) rr0.2.2.2.2.2.2.2.2.2.2.1, (fx_i g9 rfl).trans ((gx_k (by decide)).trans (rr0.2.2.2.2.2.2.2.2.2.2.2))⟩ hq) (bls_d (a := (tkn T n p)) s4 (dfr_go s4 (dfr_39 s4 (dt)) g9) ((fx_i g9 rfl).trans ((gx_o (by decide)).trans (d45))) ⟨rtp_f (S := rS) (L := gL) rr0.1 (fx_t (fx_ui (fx_0) rfl) (fx_w g9 (fun _ _ => gS_r) (fun _ _ z => z))) rfl (fun _ => rfl), t9, (fx_i g9 rfl).trans ((gx_k (by decide)).trans (rr0.2.2.1)), rr0.2.2.2.1, nms_f (S := rS) (L := gL) rr0.2.2.2.2.1 (fx_t (fx_ui (fx_0) rfl) (fx_w g9 (fun _ _ => gS_r) (fun _ _ z => z))) rfl (fun _ => rfl), (fx_i g9 rfl).trans (gx_s), by omega, (fx_i g9 rfl).trans ((gx_k (by decide)).trans (rr0.2.2.2.2.2.2.2.1)), rr0.2.2.2.2.2.2.2.2.1, rr0.2.2.2.2.2.2.2.2.2.1, frs_c (fun k hk' => (fx_i g9 rfl).trans (gx_o (by decide))) rr0.2.2.2.2.2.2.2.2.2.2.1, (fx_i g9 rfl).trans ((gx_k (by decide)).trans (rr0.2.2.2.2.2.2.2.2.2.2.2))⟩ hq)) ?_
              rintro v10 h10 ⟨⟨g10, l10, q10⟩, dq10⟩
              have hq := fx_q g10 hq
              rw [er, ev]
              have hv10 : ∃ x, v10 = some (.int x) := by
                cases hr10 : (bls T n (tke T n p) (o + 1) fs) with
                | inl s => obtain ⟨a1, a2, a3, a4⟩ := s; exact ⟨1, (l10 _ _ _ _ hr10).1⟩
                | inr e => obtain ⟨a1, a2⟩ := e; exact ⟨0, (q10 _ _ hr10).1⟩
              obtain ⟨x10, rfl⟩ := hv10
              exact xq_ret rfl rfl rfl dq10
          | false =>
            have z6 : o = 120 := nq_nef (a := o) (b := 120) (by omega) (by omega) c6
            refine xq_n 133 [0, 1] [(0, .ref 39), (1, .int (Int32.ofInt 0))] [.int (Int32.ofInt 4), .ref 39] h [true, false] 9 hq rfl ⟨rfl, (show xe_c .ne (xg 0 h.2.1 39 27) 120 = false by rw [show (xg 0 h.2.1 39 27) = (nI o) from rr0.2.2.2.2.2.1]; exact c6), trivial⟩ (fun hq => ?_)
            refine xq_run hq rfl rfl (bad_q (k := 4) hT (rt) hq) ?_
            rintro v11 h11 ⟨rfl, g11, f11, l11⟩
            have hq := fx_q g11 hq
            rw [if_neg (show ¬ rkk T n p = 1 from fun e => by have e1 := rk1.mp e; omega)] at f11
            have er : bo T n mem nn NW p o fs = .inr (4, tks T n p) := by
              unfold bo
              repeat (first | rw [if_pos (by omega)] | rw [if_neg (by omega)] | rw [if_pos b5] | rw [if_neg (by rw [b5]; decide)] | rw [if_pos (show lone T n p = true from decide_eq_true (by omega))] | rw [if_neg (show ¬ lone T n p = true from fun e => by have := of_decide_eq_true e; omega)])
              try rfl
            exact xq_ret rfl rfl rfl (dQ_r er)
      | false =>
        have z3 : (tkn T n p) = 0 := nq_nef (a := (tkn T n p)) (b := 0) (by omega) (by omega) c3
        refine xq_n 73 [0, 1] [(0, .ref 39), (1, .int (Int32.ofInt 0))] [.int (Int32.ofInt 2), .ref 39] h [true, true, false, false] 21 hq rfl ⟨(show xe_c .ne (xg 0 h.2.1 39 9) (Int32.ofInt 2) = true by rw [show (xg 0 h.2.1 39 9) = (nI (rkk T n p)) from rt.2.1]; exact c1), (show xe_c .eq (xg 0 h.2.1 39 9) (Int32.ofInt 3) = true by rw [show (xg 0 h.2.1 39 9) = (nI (rkk T n p)) from rt.2.1]; exact c2), (show xe_c .ne (xg 0 h.2.1 39 9) (Int32.ofInt 3) = false by rw [show (xg 0 h.2.1 39 9) = (nI (rkk T n p)) from rt.2.1, z2]; rfl), (show xe_c .ne (xg 0 h.2.1 39 10) 0 = false by rw [show (xg 0 h.2.1 39 10) = (nI (tkn T n p)) from rt.2.2.2.1 (by omega)]; exact c3), trivial⟩ (fun hq => ?_)
        refine xq_run hq rfl rfl (bad_q (k := 2) hT (rt) hq) ?_
        rintro v12 h12 ⟨rfl, g12, f12, l12⟩
        have hq := fx_q g12 hq
        rw [if_neg (show ¬ rkk T n p = 1 from fun e => by have e1 := rk1.mp e; omega)] at f12
        have er : bo T n mem nn NW p o fs = .inr (2, tks T n p) := by
          unfold bo
          repeat (first | rw [if_pos (by omega)] | rw [if_neg (by omega)] | rw [if_pos (show lone T n p = true from decide_eq_true (by omega))] | rw [if_neg (show ¬ lone T n p = true from fun e => by have := of_decide_eq_true e; omega)])
          try rfl
        exact xq_ret rfl rfl rfl (dQ_r er)
    | false =>
      have z2 : (rkk T n p) ≠ 3 := nq_eqf (a := (rkk T n p)) (b := 3) (by omega) (by omega) c2
      have yc2 := mt (rk3 (T := T) (n := n) (p := p)).mpr z2
      refine xq_n 33 [0, 1] [(0, .ref 39), (1, .int (Int32.ofInt 0))] [.int 40, .ref 39] h [true, false] 14 hq rfl ⟨(show xe_c .ne (xg 0 h.2.1 39 9) (Int32.ofInt 2) = true by rw [show (xg 0 h.2.1 39 9) = (nI (rkk T n p)) from rt.2.1]; exact c1), (show xe_c .eq (xg 0 h.2.1 39 9) (Int32.ofInt 3) = false by rw [show (xg 0 h.2.1 39 9) = (nI (rkk T n p)) from rt.2.1]; exact c2), trivial⟩ (fun hq => ?_)
      refine xq_run hq rfl rfl (rsg_q (c := 40) (by decide) (by decide) hT (rt) hq) ?_
      rintro v13 h_v13 ⟨rfl, rfl⟩
      cases b14 : (decide (tkk T n p = 40)) with
      | true =>
        have db14 := of_decide_eq_true b14
        refine xq_n 102 [0, 1] [(0, .ref 39), (1, .int (Int32.ofInt 0))] [.ref 39] h [true, true, true] 10 hq rfl ⟨rfl, (show xe_c .ne (xg 0 h.2.1 39 9) (Int32.ofInt 3) = true by rw [show (xg 0 h.2.1 39 9) = (nI (rkk T n p)) from rt.2.1, xc_ne, c2]; rfl), (by decide), trivial⟩ (fun hq => ?_)
        refine xq_run hq rfl rfl (rnm_q hT (rt) hq) ?_
        rintro v15 h_v15 ⟨rfl, rfl⟩
        cases b16 : (nmt T n p) with
        | true =>
          have db16 := of_decide_eq_true b16
          omega
        | false =>
          have db16 := of_decide_eq_false b16
          cases c17 : xe_c .ne (nI o) 120 with
          | true =>
            have z17 : o ≠ 120 := nq_net (a := o) (b := 120) (by omega) (by omega) c17
            refine xq_n 140 [0, 1] [(0, .ref 39), (1, .int (Int32.ofInt 0))] [.int 40, .ref 39] h [true, true] 9 hq rfl ⟨rfl, (show xe_c .ne (xg 0 h.2.1 39 27) 120 = true by rw [show (xg 0 h.2.1 39 27) = (nI o) from rr0.2.2.2.2.2.1]; exact c17), trivial⟩ (fun hq => ?_)
            refine xq_run hq rfl rfl (rsg_q (c := 40) (by decide) (by decide) hT (rt) hq) ?_
            rintro v18 h_v18 ⟨rfl, rfl⟩
            cases c19 : xe_c .ne (nI (fs.length - 1)) 12 with
            | true =>
              have z19 : (fs.length - 1) ≠ 12 := nq_net (a := (fs.length - 1)) (b := 12) (by omega) (by omega) c19
              cases c20 : xe_c .ne (nI (rkk T n p)) (Int32.ofInt 4) with
              | true =>
                have z20 : (rkk T n p) ≠ 4 := nq_net (a := (rkk T n p)) (b := 4) (by omega) (by omega) c20
                have yc20 := mt (rk4 (T := T) (n := n) (p := p)).mpr z20
                omega
              | false =>
                have z20 : (rkk T n p) = 4 := nq_nef (a := (rkk T n p)) (b := 4) (by omega) (by omega) c20
                have yc20 := (rk4 (T := T) (n := n) (p := p)).mp z20
                refine xq_n 214 [0, 1] [(0, .ref 39), (1, .int (Int32.ofInt 0))] [.int (Int32.ofInt 1), .ref 39] (xh_ui (xh_ui h 39 27 ((xg 0 h.2.1 39 27) + (Int32.ofInt 1))) 39 28 ((xg 0 (xh_ui h 39 27 ((xg 0 h.2.1 39 27) + (Int32.ofInt 1))).2.1 39 28) + (Int32.ofInt 1))) [false, true, true, false] 29 hq rfl ⟨(show xe_c .eq (bl (decide (tkk T n p = 40))) 0 = false by rw [b14]; rfl), (show xe_c .ne (xg 0 h.2.1 39 28) 12 = true by rw [show (xg 0 h.2.1 39 28) = (nI (fs.length - 1)) from rr0.2.2.2.2.2.2.2.1]; exact c19), (show xe_c .ne (xg 0 (xh_ui h 39 27 ((xg 0 h.2.1 39 27) + (Int32.ofInt 1))).2.1 39 9) (Int32.ofInt 3) = true by rw [show (xg 0 (xh_ui h 39 27 ((xg 0 h.2.1 39 27) + (Int32.ofInt 1))).2.1 39 9) = (nI (rkk T n p)) from (gx_k (by decide)).trans (rt.2.1), xc_ne, c2]; rfl), (show xe_c .ne (xg 0 (xh_ui h 39 27 ((xg 0 h.2.1 39 27) + (Int32.ofInt 1))).2.1 39 9) (Int32.ofInt 4) = false by rw [show (xg 0 (xh_ui h 39 27 ((xg 0 h.2.1 39 27) + (Int32.ofInt 1))).2.1 39 9) = (nI (rkk T n p)) from (gx_k (by decide)).trans (rt.2.1)]; exact c20), trivial⟩ (fun _ => ?_)
                rw [show (xg 0 (xh_ui h 39 27 ((xg 0 h.2.1 39 27) + (Int32.ofInt 1))).2.1 39 28) = (nI (fs.length - 1)) from (gx_k (by decide)).trans (rr0.2.2.2.2.2.2.2.1)]
                rw [show (xg 0 h.2.1 39 27) = (nI o) from rr0.2.2.2.2.2.1]
                rw [show ((nI o) + (Int32.ofInt 1)) = nI (o + 1) from nI_1 _]
                rw [show ((nI (fs.length - 1)) + (Int32.ofInt 1)) = nI (fs.length - 1 + 1) from nI_1 _]
                rw [show (nI (fs.length - 1 + 1)) = nI fs.length from (by rw [show fs.length - 1 + 1 = fs.length by omega])]
                have hq : a_rq a_tb (xh_ui (xh_ui h 39 27 (nI (o + 1))) 39 28 (nI fs.length)) := a_rq_ui (a_rq_ui hq)
                have nz21 : tkk T n p ≠ 0 := by omega
                refine xq_run hq rfl rfl (xq_and (opr_q (ty := 1) (t := fs.length) (by omega) (tke_le nz21) hq (rtp_f (S := rS) (L := gL) rr0.1 (fx_ui (fx_ui (fx_0) rfl) rfl) rfl (fun _ => rfl)) ((gx_k (by decide)).trans ((gx_k (by decide)).trans (rt.2.2.2.2.2 (by omega)))) (gx_s)) (opr_d (t := fs.length) s4 (by omega) (tke_le nz21) hq (rtp_f (S := rS) (L := gL) rr0.1 (fx_ui (fx_ui (fx_0) rfl) rfl) rfl (fun _ => rfl)) ((gx_k (by decide)).trans ((gx_k (by decide)).trans (rt.2.2.2.2.2 (by omega)))) (gx_s))) ?_
                rintro v21 h21 ⟨⟨rfl, g21, t21, y21, a21⟩, dg21, k121, k221⟩
                have hq := fx_q g21 hq
                refine xq_n 218 [] [] [.int (Int32.ofInt 1)] h21 [] 3 hq rfl trivial (fun hq => ?_)
                have er : bo T n mem nn NW p o fs = .inl (1, tke T n p, (o + 1), 1 :: fs) := by
                  unfold bo
                  repeat (first | rw [if_pos (by omega)] | rw [if_neg (by omega)] | rw [if_pos b14] | rw [if_neg (by rw [b14]; decide)] | rw [if_pos b16] | rw [if_neg (by rw [b16]; decide)] | rw [if_pos (show lone T n p = true from decide_eq_true (by omega))] | rw [if_neg (show ¬ lone T n p = true from fun e => by have := of_decide_eq_true e; omega)])
                  try rfl
                rw [show vbo T n nn NW sv NV p ds one = (vR :: ds, one) from by unfold vbo; rw [if_neg (by omega), if_pos (by omega)]]
                exact xq_ret rfl rfl rfl (dQ_l er ⟨fun z => absurd z (by decide), fun _ => ⟨k121, k221⟩, dfr_op s4 (dfr_39 s4 (dfr_39 s4 (dt))) dg21⟩ ((fx_i dg21 rfl).trans ((gx_o (by decide)).trans ((gx_o (by decide)).trans (d45)))))
            | false =>
              have z19 : (fs.length - 1) = 12 := nq_nef (a := (fs.length - 1)) (b := 12) (by omega) (by omega) c19
              refine xq_n 157 [0, 1] [(0, .ref 39), (1, .int (Int32.ofInt 0))] [.int (Int32.ofInt 4), .ref 39] h [false, false] 9 hq rfl ⟨(show xe_c .eq (bl (decide (tkk T n p = 40))) 0 = false by rw [b14]; rfl), (show xe_c .ne (xg 0 h.2.1 39 28) 12 = false by rw [show (xg 0 h.2.1 39 28) = (nI (fs.length - 1)) from rr0.2.2.2.2.2.2.2.1]; exact c19), trivial⟩ (fun hq => ?_)
              refine xq_run hq rfl rfl (bad_q (k := 4) hT (rt) hq) ?_
              rintro v22 h22 ⟨rfl, g22, f22, l22⟩
              have hq := fx_q g22 hq
              rw [if_neg (show ¬ rkk T n p = 1 from fun e => by have e1 := rk1.mp e; omega)] at f22
              have er : bo T n mem nn NW p o fs = .inr (4, tks T n p) := by
                unfold bo
                repeat (first | rw [if_pos (by omega)] | rw [if_neg (by omega)] | rw [if_pos b14] | rw [if_neg (by rw [b14]; decide)] | rw [if_pos b16] | rw [if_neg (by rw [b16]; decide)] | rw [if_pos (show lone T n p = true from decide_eq_true (by omega))] | rw [if_neg (show ¬ lone T n p = true from fun e => by have := of_decide_eq_true e; omega)])
                try rfl
              exact xq_ret rfl rfl rfl (dQ_r er)
          | false =>
            have z17 : o = 120 := nq_nef (a := o) (b := 120) (by omega) (by omega) c17
            refine xq_n 133 [0, 1] [(0, .ref 39), (1, .int (Int32.ofInt 0))] [.int (Int32.ofInt 4), .ref 39] h [true, false] 9 hq rfl ⟨rfl, (show xe_c .ne (xg 0 h.2.1 39 27) 120 = false by rw [show (xg 0 h.2.1 39 27) = (nI o) from rr0.2.2.2.2.2.1]; exact c17), trivial⟩ (fun hq => ?_)
            refine xq_run hq rfl rfl (bad_q (k := 4) hT (rt) hq) ?_
            rintro v23 h23 ⟨rfl, g23, f23, l23⟩
            have hq := fx_q g23 hq
            rw [if_neg (show ¬ rkk T n p = 1 from fun e => by have e1 := rk1.mp e; omega)] at f23
            have er : bo T n mem nn NW p o fs = .inr (4, tks T n p) := by
              unfold bo
              repeat (first | rw [if_pos (by omega)] | rw [if_neg (by omega)] | rw [if_pos b14] | rw [if_neg (by rw [b14]; decide)] | rw [if_pos b16] | rw [if_neg (by rw [b16]; decide)] | rw [if_pos (show lone T n p = true from decide_eq_true (by omega))] | rw [if_neg (show ¬ lone T n p = true from fun e => by have := of_decide_eq_true e; omega)])
              try rfl
            exact xq_ret rfl rfl rfl (dQ_r er)
      | false =>
        have db14 := of_decide_eq_false b14
        refine xq_n 44 [0, 1] [(0, .ref 39), (1, .int (Int32.ofInt 0))] [.ref 39] h [false, false] 6 hq rfl ⟨rfl, (by decide), trivial⟩ (fun hq => ?_)
        refine xq_run hq rfl rfl (rnm_q hT (rt) hq) ?_
        rintro v24 h_v24 ⟨rfl, rfl⟩
        cases b25 : (nmt T n p) with
        | true =>
          have db25 := of_decide_eq_true b25
          omega
        | false =>
          have db25 := of_decide_eq_false b25
          refine xq_n 52 [0, 1] [(0, .ref 39), (1, .int (Int32.ofInt 0))] [.int (Int32.ofInt 1), .ref 39] h [false] 5 hq rfl ⟨rfl, trivial⟩ (fun hq => ?_)
          refine xq_run hq rfl rfl (bad_q (k := 1) hT (rt) hq) ?_
          rintro v26 h26 ⟨rfl, g26, f26, l26⟩
          have hq := fx_q g26 hq
          rw [show (if rkk T n p = 1 then 1 else 1) = 1 by split <;> rfl] at f26
          have er : bo T n mem nn NW p o fs = .inr (1, tks T n p) := by
            unfold bo
            repeat (first | rw [if_pos (by omega)] | rw [if_neg (by omega)] | rw [if_pos b14] | rw [if_neg (by rw [b14]; decide)] | rw [if_pos b25] | rw [if_neg (by rw [b25]; decide)] | rw [if_pos (show lone T n p = true from decide_eq_true (by omega))] | rw [if_neg (show ¬ lone T n p = true from fun e => by have := of_decide_eq_true e; omega)])
            try rfl
          exact xq_ret rfl rfl rfl (dQ_r er)
  | false =>
    have z1 : (rkk T n p) = 2 := nq_nef (a := (rkk T n p)) (b := 2) (by omega) (by omega) c1
    have yc1 := (rk2 (T := T) (n := n) (p := p)).mp z1
    have wlt := tkw_lt (T := T) (n := n) (p := p) yc1
    have tk2' := (tk2 (T := T) (n := n) (p := p) yc1).2.1
    cases c27 : xe_c .ne (nI (tke T n p - tks T n p)) (Int32.ofInt 1) with
    | true =>
      have z27 : (tke T n p - tks T n p) ≠ 1 := nq_net (a := (tke T n p - tks T n p)) (b := 1) (by omega) (by omega) c27
      refine xq_n 33 [0, 1] [(0, .ref 39), (1, .int (Int32.ofInt 0))] [.int 40, .ref 39] h [false, true, false] 18 hq rfl ⟨(show xe_c .ne (xg 0 h.2.1 39 9) (Int32.ofInt 2) = false by rw [show (xg 0 h.2.1 39 9) = (nI (rkk T n p)) from rt.2.1]; exact c1), (show xe_c .ne (xg 0 h.2.1 39 12) (Int32.ofInt 1) = true by rw [show (xg 0 h.2.1 39 12) = (nI (tke T n p - tks T n p)) from (rt.2.2.1 (by omega)).1]; exact c27), (show xe_c .eq (xg 0 h.2.1 39 9) (Int32.ofInt 3) = false by rw [show (xg 0 h.2.1 39 9) = (nI (rkk T n p)) from rt.2.1, z1]; rfl), trivial⟩ (fun hq => ?_)
      refine xq_run hq rfl rfl (rsg_q (c := 40) (by decide) (by decide) hT (rt) hq) ?_
      rintro v28 h_v28 ⟨rfl, rfl⟩
      cases b29 : (decide (tkk T n p = 40)) with
      | true =>
        have db29 := of_decide_eq_true b29
        omega
      | false =>
        have db29 := of_decide_eq_false b29
        refine xq_n 44 [0, 1] [(0, .ref 39), (1, .int (Int32.ofInt 0))] [.ref 39] h [false, false] 6 hq rfl ⟨rfl, (by decide), trivial⟩ (fun hq => ?_)
        refine xq_run hq rfl rfl (rnm_q hT (rt) hq) ?_
        rintro v30 h_v30 ⟨rfl, rfl⟩
        cases b31 : (nmt T n p) with
        | true =>
          have db31 := of_decide_eq_true b31
          refine xq_n 102 [0, 1] [(0, .ref 39), (1, .int (Int32.ofInt 0))] [.ref 39] h [true, true, true] 10 hq rfl ⟨rfl, (show xe_c .ne (xg 0 h.2.1 39 9) (Int32.ofInt 3) = true by rw [show (xg 0 h.2.1 39 9) = (nI (rkk T n p)) from rt.2.1, z1]; rfl), (by decide), trivial⟩ (fun hq => ?_)
          refine xq_run hq rfl rfl (rnm_q hT (rt) hq) ?_
          rintro v32 h_v32 ⟨rfl, rfl⟩
          refine xq_n 109 [0, 1] [(0, .ref 39), (1, .int (Int32.ofInt 0))] [.ref 39] h [false] 4 hq rfl ⟨(show xe_c .eq (bl (nmt T n p)) 0 = false by rw [b31]; rfl), trivial⟩ (fun hq => ?_)
          refine xq_run hq rfl rfl (np_q (rr0.2.2.2.2.1) ((rt.2.2.1 (by omega)).2) (tkw_lt (by omega)) hq) ?_
          rintro v33 h_33 ⟨rfl, ⟨rfl, hn33⟩ | ⟨kl33, rfl, hn33⟩⟩
          · skip
            refine xq_n 118 [0, 1] [(0, .ref 39), (1, .int (Int32.ofInt 0))] [.int (Int32.ofInt 3), .ref 39] h [false] 6 hq rfl ⟨(by decide), trivial⟩ (fun hq => ?_)
            refine xq_run hq rfl rfl (bad_q (k := 3) hT (rt) hq) ?_
            rintro v34 h34 ⟨rfl, g34, f34, l34⟩
            have hq := fx_q g34 hq
            rw [if_neg (show ¬ rkk T n p = 1 from fun e => by have e1 := rk1.mp e; omega)] at f34
            have er : bo T n mem nn NW p o fs = .inr (3, tks T n p) := by
              unfold bo
              repeat (first | rw [if_pos (by omega)] | rw [if_neg (by omega)] | rw [if_pos b29] | rw [if_neg (by rw [b29]; decide)] | rw [if_pos b31] | rw [if_neg (by rw [b31]; decide)] | rw [if_pos hn33] | rw [if_neg (by rw [hn33]; decide)] | rw [if_pos (show lone T n p = true from decide_eq_true (by omega))] | rw [if_neg (show ¬ lone T n p = true from fun e => by have := of_decide_eq_true e; omega)])
              try rfl
            exact xq_ret rfl rfl rfl (dQ_r er)
          · skip
            cases c35 : xe_c .ne (nI (nmi nn NW (tkw T n p))) (Int32.ofInt (-1)) with
            | true =>
              cases c36 : xe_c .ne (nI o) 120 with
              | true =>
                have z36 : o ≠ 120 := nq_net (a := o) (b := 120) (by omega) (by omega) c36
                refine xq_n 140 [0, 1] [(0, .ref 39), (1, .int (Int32.ofInt 0))] [.int 40, .ref 39] h [true, true] 10 hq rfl ⟨c35, (show xe_c .ne (xg 0 h.2.1 39 27) 120 = true by rw [show (xg 0 h.2.1 39 27) = (nI o) from rr0.2.2.2.2.2.1]; exact c36), trivial⟩ (fun hq => ?_)
                refine xq_run hq rfl rfl (rsg_q (c := 40) (by decide) (by decide) hT (rt) hq) ?_
                rintro v37 h_v37 ⟨rfl, rfl⟩
                refine xq_n 228 [0, 1, 2] [(0, .ref 39), (1, .int (Int32.ofInt 0)), (2, .int (((xg 0 (xh_ui h 39 27 ((xg 0 h.2.1 39 27) + (Int32.ofInt 1))).2.2.1 39 15).toInt32) - (Int32.ofInt 1)))] [.ref 39] (xh_ui h 39 27 ((xg 0 h.2.1 39 27) + (Int32.ofInt 1))) [true, true, true] 24 hq rfl ⟨(show xe_c .eq (bl (decide (tkk T n p = 40))) 0 = true by rw [b29]; rfl), (show xe_c .ne (xg 0 (xh_ui h 39 27 ((xg 0 h.2.1 39 27) + (Int32.ofInt 1))).2.1 39 9) (Int32.ofInt 3) = true by rw [show (xg 0 (xh_ui h 39 27 ((xg 0 h.2.1 39 27) + (Int32.ofInt 1))).2.1 39 9) = (nI (rkk T n p)) from (gx_k (by decide)).trans (rt.2.1), z1]; rfl), (show xe_c .ne (xg 0 (xh_ui h 39 27 ((xg 0 h.2.1 39 27) + (Int32.ofInt 1))).2.1 39 9) (Int32.ofInt 4) = true by rw [show (xg 0 (xh_ui h 39 27 ((xg 0 h.2.1 39 27) + (Int32.ofInt 1))).2.1 39 9) = (nI (rkk T n p)) from (gx_k (by decide)).trans (rt.2.1), z1]; rfl), trivial⟩ (fun _ => ?_)
                rw [show (xg 0 (xh_ui h 39 27 ((xg 0 h.2.1 39 27) + (Int32.ofInt 1))).2.2.1 39 15) = (Int64.ofNat (tkw T n p)) from (rt.2.2.1 (by omega)).2]
                rw [show (xg 0 h.2.1 39 27) = (nI o) from rr0.2.2.2.2.2.1]
                rw [show ((nI o) + (Int32.ofInt 1)) = nI (o + 1) from nI_1 _]
                have hq : a_rq a_tb (xh_ui h 39 27 (nI (o + 1))) := a_rq_ui hq
                refine xq_run hq rfl rfl (np_q (nms_f (S := rS) (L := gL) rr0.2.2.2.2.1 (fx_ui (fx_0) rfl) rfl (fun _ => rfl)) ((rt.2.2.1 (by omega)).2) (tkw_lt (by omega)) hq) ?_
                rintro v38 h_38 ⟨rfl, ⟨rfl, hn38⟩ | ⟨kl38, rfl, hn38⟩⟩
                · rw [hn33] at hn38; cases hn38
                · skip
                  refine xq_n 235 [0, 1, 2, 3, 4] [(0, .ref 39), (1, .int (Int32.ofInt 0)), (2, .int (((Int64.ofNat (tkw T n p)).toInt32) - (Int32.ofInt 1))), (3, .int (nI (nmi nn NW (tkw T n p)))), (4, .int (Int32.ofInt 0))] [] (xh_ui h 39 27 (nI (o + 1))) [] 5 hq rfl trivial (fun hq => ?_)
                  have er : bo T n mem nn NW p o fs = .inl (0, tke T n p, (o + 1), fs) := by
                    unfold bo
                    repeat (first | rw [if_pos (by omega)] | rw [if_neg (by omega)] | rw [if_pos b29] | rw [if_neg (by rw [b29]; decide)] | rw [if_pos b31] | rw [if_neg (by rw [b31]; decide)] | rw [if_pos hn33] | rw [if_neg (by rw [hn33]; decide)] | rw [if_pos hn38] | rw [if_neg (by rw [hn38]; decide)] | rw [if_pos (show lone T n p = true from decide_eq_true (by omega))] | rw [if_neg (show ¬ lone T n p = true from fun e => by have := of_decide_eq_true e; omega)])
                    try rfl
                  have ev : vbo T n nn NW sv NV p ds one = (ds, NV (nmi nn NW (tkw T n p))) := by unfold vbo; rw [if_neg (by omega), if_neg (by omega), if_neg (show ¬ lone T n p = true from fun e => by have := of_decide_eq_true e; omega)]
                  rw [ev]
                  refine xq_mono (bon_dl (hb := xh_ui h 39 27 (nI (o + 1))) s4 rfl (by omega) ((gx_o (by decide)).trans (dn _ kl38)) f 0 _ fx_0 (⟨rtp_f (S := rS) (L := gL) rr0.1 (fx_ui (fx_0) rfl) rfl (fun _ => rfl), rtk_ui (rt) rfl, (gx_k (by decide)).trans (rr0.2.2.1), rr0.2.2.2.1, nms_f (S := rS) (L := gL) rr0.2.2.2.2.1 (fx_ui (fx_0) rfl) rfl (fun _ => rfl), gx_s, by omega, (gx_k (by decide)).trans (rr0.2.2.2.2.2.2.2.1), rr0.2.2.2.2.2.2.2.2.1, rr0.2.2.2.2.2.2.2.2.2.1, frs_c (fun k hk' => gx_o (by decide)) rr0.2.2.2.2.2.2.2.2.2.2.1, (gx_k (by decide)).trans (rr0.2.2.2.2.2.2.2.2.2.2.2)⟩) (by omega) (by omega) (dfr_39 s4 (dt)) (lp_0 _ ((gx_o (by decide)).trans (d45))) hq) (fun v h' e => dQ_l er e.1 e.2)
              | false =>
                have z36 : o = 120 := nq_nef (a := o) (b := 120) (by omega) (by omega) c36
                refine xq_n 133 [0, 1] [(0, .ref 39), (1, .int (Int32.ofInt 0))] [.int (Int32.ofInt 4), .ref 39] h [true, false] 10 hq rfl ⟨c35, (show xe_c .ne (xg 0 h.2.1 39 27) 120 = false by rw [show (xg 0 h.2.1 39 27) = (nI o) from rr0.2.2.2.2.2.1]; exact c36), trivial⟩ (fun hq => ?_)
                refine xq_run hq rfl rfl (bad_q (k := 4) hT (rt) hq) ?_
                rintro v39 h39 ⟨rfl, g39, f39, l39⟩
                have hq := fx_q g39 hq
                rw [if_neg (show ¬ rkk T n p = 1 from fun e => by have e1 := rk1.mp e; omega)] at f39
                have er : bo T n mem nn NW p o fs = .inr (4, tks T n p) := by
                  unfold bo
                  repeat (first | rw [if_pos (by omega)] | rw [if_neg (by omega)] | rw [if_pos b29] | rw [if_neg (by rw [b29]; decide)] | rw [if_pos b31] | rw [if_neg (by rw [b31]; decide)] | rw [if_pos hn33] | rw [if_neg (by rw [hn33]; decide)] | rw [if_pos (show lone T n p = true from decide_eq_true (by omega))] | rw [if_neg (show ¬ lone T n p = true from fun e => by have := of_decide_eq_true e; omega)])
                  try rfl
                exact xq_ret rfl rfl rfl (dQ_r er)
            | false =>
              exact absurd (xne_j c35) (nIm1 (by omega))
        | false =>
          have db31 := of_decide_eq_false b31
          refine xq_n 52 [0, 1] [(0, .ref 39), (1, .int (Int32.ofInt 0))] [.int (Int32.ofInt 1), .ref 39] h [false] 5 hq rfl ⟨rfl, trivial⟩ (fun hq => ?_)
          refine xq_run hq rfl rfl (bad_q (k := 1) hT (rt) hq) ?_
          rintro v40 h40 ⟨rfl, g40, f40, l40⟩
          have hq := fx_q g40 hq
          rw [show (if rkk T n p = 1 then 1 else 1) = 1 by split <;> rfl] at f40
          have er : bo T n mem nn NW p o fs = .inr (1, tks T n p) := by
            unfold bo
            repeat (first | rw [if_pos (by omega)] | rw [if_neg (by omega)] | rw [if_pos b29] | rw [if_neg (by rw [b29]; decide)] | rw [if_pos b31] | rw [if_neg (by rw [b31]; decide)] | rw [if_pos (show lone T n p = true from decide_eq_true (by omega))] | rw [if_neg (show ¬ lone T n p = true from fun e => by have := of_decide_eq_true e; omega)])
            try rfl
          exact xq_ret rfl rfl rfl (dQ_r er)
    | false =>
      have z27 : (tke T n p - tks T n p) = 1 := nq_nef (a := (tke T n p - tks T n p)) (b := 1) (by omega) (by omega) c27
      refine xq_n 33 [0, 1] [(0, .ref 39), (1, .int (Int32.ofInt 1))] [.int 40, .ref 39] h [false, false, false] 19 hq rfl ⟨(show xe_c .ne (xg 0 h.2.1 39 9) (Int32.ofInt 2) = false by rw [show (xg 0 h.2.1 39 9) = (nI (rkk T n p)) from rt.2.1]; exact c1), (show xe_c .ne (xg 0 h.2.1 39 12) (Int32.ofInt 1) = false by rw [show (xg 0 h.2.1 39 12) = (nI (tke T n p - tks T n p)) from (rt.2.2.1 (by omega)).1]; exact c27), (show xe_c .eq (xg 0 h.2.1 39 9) (Int32.ofInt 3) = false by rw [show (xg 0 h.2.1 39 9) = (nI (rkk T n p)) from rt.2.1, z1]; rfl), trivial⟩ (fun hq => ?_)
      refine xq_run hq rfl rfl (rsg_q (c := 40) (by decide) (by decide) hT (rt) hq) ?_
      rintro v41 h_v41 ⟨rfl, rfl⟩
      cases b42 : (decide (tkk T n p = 40)) with
      | true =>
        have db42 := of_decide_eq_true b42
        omega
      | false =>
        have db42 := of_decide_eq_false b42
        refine xq_n 89 [0, 1] [(0, .ref 39), (1, .int (Int32.ofInt 1))] [.int (((xg 0 h.2.2.1 39 15).toInt32) - (Int32.ofInt 1)), .ref 39] h [false, true, true, false] 17 hq rfl ⟨rfl, (by decide), (show xe_c .ne (xg 0 h.2.1 39 9) (Int32.ofInt 3) = true by rw [show (xg 0 h.2.1 39 9) = (nI (rkk T n p)) from rt.2.1, z1]; rfl), (by decide), trivial⟩ (fun hq => ?_)
        rw [show (xg 0 h.2.2.1 39 15) = (Int64.ofNat (tkw T n p)) from (rt.2.2.1 (by omega)).2]
        have lw := lone_w (T := T) (n := n) (p := p) (decide_eq_true (by omega))
        rw [show (((Int64.ofNat (tkw T n p)).toInt32) - (Int32.ofInt 1)) = nI (tkw T n p - 1) from ll_v (by omega) (by omega) (by omega)]
        refine xq_run hq rfl rfl (rmb_q (m := (tkw T n p - 1)) (by omega) rr0.2.2.2.1 (rr0.2.2.1) hq) ?_
        rintro v43 h_v43 ⟨rfl, rfl⟩
        cases b44 : (decide ((tkw T n p - 1) < mem)) with
        | true =>
          have db44 := of_decide_eq_true b44
          refine xq_n 102 [0, 1] [(0, .ref 39), (1, .int (Int32.ofInt 1))] [.ref 39] h [true] 4 hq rfl ⟨rfl, trivial⟩ (fun hq => ?_)
          refine xq_run hq rfl rfl (rnm_q hT (rt) hq) ?_
          rintro v45 h_v45 ⟨rfl, rfl⟩
          cases b46 : (nmt T n p) with
          | true =>
            have db46 := of_decide_eq_true b46
            omega
          | false =>
            have db46 := of_decide_eq_false b46
            cases c47 : xe_c .ne (nI o) 120 with
            | true =>
              have z47 : o ≠ 120 := nq_net (a := o) (b := 120) (by omega) (by omega) c47
              refine xq_n 140 [0, 1] [(0, .ref 39), (1, .int (Int32.ofInt 1))] [.int 40, .ref 39] h [true, true] 9 hq rfl ⟨rfl, (show xe_c .ne (xg 0 h.2.1 39 27) 120 = true by rw [show (xg 0 h.2.1 39 27) = (nI o) from rr0.2.2.2.2.2.1]; exact c47), trivial⟩ (fun hq => ?_)
              refine xq_run hq rfl rfl (rsg_q (c := 40) (by decide) (by decide) hT (rt) hq) ?_
              rintro v48 h_v48 ⟨rfl, rfl⟩
              refine xq_n 228 [0, 1, 2] [(0, .ref 39), (1, .int (Int32.ofInt 1)), (2, .int (((xg 0 (xh_ui h 39 27 ((xg 0 h.2.1 39 27) + (Int32.ofInt 1))).2.2.1 39 15).toInt32) - (Int32.ofInt 1)))] [.ref 39] (xh_ui h 39 27 ((xg 0 h.2.1 39 27) + (Int32.ofInt 1))) [true, true, true] 24 hq rfl ⟨(show xe_c .eq (bl (decide (tkk T n p = 40))) 0 = true by rw [b42]; rfl), (show xe_c .ne (xg 0 (xh_ui h 39 27 ((xg 0 h.2.1 39 27) + (Int32.ofInt 1))).2.1 39 9) (Int32.ofInt 3) = true by rw [show (xg 0 (xh_ui h 39 27 ((xg 0 h.2.1 39 27) + (Int32.ofInt 1))).2.1 39 9) = (nI (rkk T n p)) from (gx_k (by decide)).trans (rt.2.1), z1]; rfl), (show xe_c .ne (xg 0 (xh_ui h 39 27 ((xg 0 h.2.1 39 27) + (Int32.ofInt 1))).2.1 39 9) (Int32.ofInt 4) = true by rw [show (xg 0 (xh_ui h 39 27 ((xg 0 h.2.1 39 27) + (Int32.ofInt 1))).2.1 39 9) = (nI (rkk T n p)) from (gx_k (by decide)).trans (rt.2.1), z1]; rfl), trivial⟩ (fun _ => ?_)
              rw [show (xg 0 (xh_ui h 39 27 ((xg 0 h.2.1 39 27) + (Int32.ofInt 1))).2.2.1 39 15) = (Int64.ofNat (tkw T n p)) from (rt.2.2.1 (by omega)).2]
              rw [show (xg 0 h.2.1 39 27) = (nI o) from rr0.2.2.2.2.2.1]
              rw [show ((nI o) + (Int32.ofInt 1)) = nI (o + 1) from nI_1 _]
              have hq : a_rq a_tb (xh_ui h 39 27 (nI (o + 1))) := a_rq_ui hq
              refine xq_run hq rfl rfl (np_q (nms_f (S := rS) (L := gL) rr0.2.2.2.2.1 (fx_ui (fx_0) rfl) rfl (fun _ => rfl)) ((rt.2.2.1 (by omega)).2) (tkw_lt (by omega)) hq) ?_
              rintro v49 h_49 ⟨rfl, ⟨rfl, hn49⟩ | ⟨kl49, rfl, hn49⟩⟩
              · skip
                refine xq_n 235 [0, 1, 2, 3, 4] [(0, .ref 39), (1, .int (Int32.ofInt 1)), (2, .int (((Int64.ofNat (tkw T n p)).toInt32) - (Int32.ofInt 1))), (3, .int (Int32.ofInt (-1))), (4, .int (Int32.ofInt 0))] [] (xh_ui h 39 27 (nI (o + 1))) [] 5 hq rfl trivial (fun hq => ?_)
                have er : bo T n mem nn NW p o fs = .inl (0, tke T n p, (o + 1), fs) := by
                  unfold bo
                  repeat (first | rw [if_pos (by omega)] | rw [if_neg (by omega)] | rw [if_pos b42] | rw [if_neg (by rw [b42]; decide)] | rw [if_pos b44] | rw [if_neg (by rw [b44]; decide)] | rw [if_pos b46] | rw [if_neg (by rw [b46]; decide)] | rw [if_pos hn49] | rw [if_neg (by rw [hn49]; decide)] | rw [if_pos (show lone T n p = true from decide_eq_true (by omega))] | rw [if_neg (show ¬ lone T n p = true from fun e => by have := of_decide_eq_true e; omega)])
                  try rfl
                have lw := lone_w (T := T) (n := n) (p := p) (decide_eq_true (by omega))
                have ev : vbo T n nn NW sv NV p ds one = (ds, sv.testBit (tkw T n p - 1)) := by unfold vbo; rw [if_neg (by omega), if_neg (by omega), if_pos (show lone T n p = true from decide_eq_true (by omega)), show T (tks T n p) - 97 = tkw T n p - 1 by omega]
                rw [ev]
                refine xq_mono (bom_dl (y1 := true) s4 (ll_v (by omega) (by omega) (by omega)) (by omega) f 0 _ fx_0 (⟨rtp_f (S := rS) (L := gL) rr0.1 (fx_ui (fx_0) rfl) rfl (fun _ => rfl), rtk_ui (rt) rfl, (gx_k (by decide)).trans (rr0.2.2.1), rr0.2.2.2.1, nms_f (S := rS) (L := gL) rr0.2.2.2.2.1 (fx_ui (fx_0) rfl) rfl (fun _ => rfl), gx_s, by omega, (gx_k (by decide)).trans (rr0.2.2.2.2.2.2.2.1), rr0.2.2.2.2.2.2.2.2.1, rr0.2.2.2.2.2.2.2.2.2.1, frs_c (fun k hk' => gx_o (by decide)) rr0.2.2.2.2.2.2.2.2.2.2.1, (gx_k (by decide)).trans (rr0.2.2.2.2.2.2.2.2.2.2.2)⟩) (by omega) (by omega) (dfr_39 s4 (dt)) (lp_0 _ ((gx_o (by decide)).trans (d45))) hq) (fun v h' e => dQ_l er e.1 e.2)
              · skip
                refine xq_n 235 [0, 1, 2, 3, 4] [(0, .ref 39), (1, .int (Int32.ofInt 1)), (2, .int (((Int64.ofNat (tkw T n p)).toInt32) - (Int32.ofInt 1))), (3, .int (nI (nmi nn NW (tkw T n p)))), (4, .int (Int32.ofInt 0))] [] (xh_ui h 39 27 (nI (o + 1))) [] 5 hq rfl trivial (fun hq => ?_)
                have er : bo T n mem nn NW p o fs = .inl (0, tke T n p, (o + 1), fs) := by
                  unfold bo
                  repeat (first | rw [if_pos (by omega)] | rw [if_neg (by omega)] | rw [if_pos b42] | rw [if_neg (by rw [b42]; decide)] | rw [if_pos b44] | rw [if_neg (by rw [b44]; decide)] | rw [if_pos b46] | rw [if_neg (by rw [b46]; decide)] | rw [if_pos hn49] | rw [if_neg (by rw [hn49]; decide)] | rw [if_pos (show lone T n p = true from decide_eq_true (by omega))] | rw [if_neg (show ¬ lone T n p = true from fun e => by have := of_decide_eq_true e; omega)])
                  try rfl
                have lw := lone_w (T := T) (n := n) (p := p) (decide_eq_true (by omega))
                have ev : vbo T n nn NW sv NV p ds one = (ds, sv.testBit (tkw T n p - 1)) := by unfold vbo; rw [if_neg (by omega), if_neg (by omega), if_pos (show lone T n p = true from decide_eq_true (by omega)), show T (tks T n p) - 97 = tkw T n p - 1 by omega]
                rw [ev]
                refine xq_mono (bom_dl (y1 := true) s4 (ll_v (by omega) (by omega) (by omega)) (by omega) f 0 _ fx_0 (⟨rtp_f (S := rS) (L := gL) rr0.1 (fx_ui (fx_0) rfl) rfl (fun _ => rfl), rtk_ui (rt) rfl, (gx_k (by decide)).trans (rr0.2.2.1), rr0.2.2.2.1, nms_f (S := rS) (L := gL) rr0.2.2.2.2.1 (fx_ui (fx_0) rfl) rfl (fun _ => rfl), gx_s, by omega, (gx_k (by decide)).trans (rr0.2.2.2.2.2.2.2.1), rr0.2.2.2.2.2.2.2.2.1, rr0.2.2.2.2.2.2.2.2.2.1, frs_c (fun k hk' => gx_o (by decide)) rr0.2.2.2.2.2.2.2.2.2.2.1, (gx_k (by decide)).trans (rr0.2.2.2.2.2.2.2.2.2.2.2)⟩) (by omega) (by omega) (dfr_39 s4 (dt)) (lp_0 _ ((gx_o (by decide)).trans (d45))) hq) (fun v h' e => dQ_l er e.1 e.2)
            | false =>
              have z47 : o = 120 := nq_nef (a := o) (b := 120) (by omega) (by omega) c47
              refine xq_n 133 [0, 1] [(0, .ref 39), (1, .int (Int32.ofInt 1))] [.int (Int32.ofInt 4), .ref 39] h [true, false] 9 hq rfl ⟨rfl, (show xe_c .ne (xg 0 h.2.1 39 27) 120 = false by rw [show (xg 0 h.2.1 39 27) = (nI o) from rr0.2.2.2.2.2.1]; exact c47), trivial⟩ (fun hq => ?_)
              refine xq_run hq rfl rfl (bad_q (k := 4) hT (rt) hq) ?_
              rintro v50 h50 ⟨rfl, g50, f50, l50⟩
              have hq := fx_q g50 hq
              rw [if_neg (show ¬ rkk T n p = 1 from fun e => by have e1 := rk1.mp e; omega)] at f50
              have er : bo T n mem nn NW p o fs = .inr (4, tks T n p) := by
                unfold bo
                repeat (first | rw [if_pos (by omega)] | rw [if_neg (by omega)] | rw [if_pos b42] | rw [if_neg (by rw [b42]; decide)] | rw [if_pos b44] | rw [if_neg (by rw [b44]; decide)] | rw [if_pos b46] | rw [if_neg (by rw [b46]; decide)] | rw [if_pos (show lone T n p = true from decide_eq_true (by omega))] | rw [if_neg (show ¬ lone T n p = true from fun e => by have := of_decide_eq_true e; omega)])
                try rfl
              exact xq_ret rfl rfl rfl (dQ_r er)
        | false =>
          have db44 := of_decide_eq_false b44
          refine xq_n 97 [0, 1] [(0, .ref 39), (1, .int (Int32.ofInt 1))] [.int (Int32.ofInt 2), .ref 39] h [false] 5 hq rfl ⟨rfl, trivial⟩ (fun hq => ?_)
          refine xq_run hq rfl rfl (bad_q (k := 2) hT (rt) hq) ?_
          rintro v51 h51 ⟨rfl, g51, f51, l51⟩
          have hq := fx_q g51 hq
          rw [if_neg (show ¬ rkk T n p = 1 from fun e => by have e1 := rk1.mp e; omega)] at f51
          have er : bo T n mem nn NW p o fs = .inr (2, tks T n p) := by
            unfold bo
            repeat (first | rw [if_pos (by omega)] | rw [if_neg (by omega)] | rw [if_pos b42] | rw [if_neg (by rw [b42]; decide)] | rw [if_pos b44] | rw [if_neg (by rw [b44]; decide)] | rw [if_pos (show lone T n p = true from decide_eq_true (by omega))] | rw [if_neg (show ¬ lone T n p = true from fun e => by have := of_decide_eq_true e; omega)])
            try rfl
          exact xq_ret rfl rfl rfl (dQ_r er)
theorem dfr_w48 {h : xh_H} {sv : Nat} {x : Int32} (s4 : sv < 4096) {fs : List Nat} {ds : List vF} (f1 : 1 ≤ fs.length) (d : dfr h sv fs ds) : dfr (xh_ui h 48 (fs.length - 1) x) sv fs (vw x ds) := by
  cases fs with
  | nil => exact absurd f1 (by decide)
  | cons t fs => exact dfr_48 s4 d
theorem dnm_f {S L : Nat → Nat → Bool} {h h' : xh_H} {sv : Nat} {NV : Nat → Bool} (d : dnm h sv nn NV) (g : fx S L h h') (e : ∀ k, S 43 k = false) : dnm h' sv nn NV := fun k hk' => (fx_i g (e _)).trans (d k hk')
set_option maxRecDepth 100000 in
set_option maxHeartbeats 4000000 in
theorem bi_d {f p o : Nat} {fs : List Nat} {h : xh_H} {sv : Nat} {ds : List vF} {one : Bool} (s4 : sv < 4096) (dt : dfr h sv fs ds) (d45 : xg 0 h.2.1 45 sv = bl one) {NV : Nat → Bool} (dn : dnm h sv nn NV) (rr0 : rr h T n mem nn NW p o fs) (h3 : tkk T n p = 3) (hq : a_rq a_tb h) : xq f xi_X10_beginItem xmi_X10_beginItem 0 [(0, .ref 39)] [] h (fun v h' => dQ h' sv (bi T n mem nn NW p o fs) (vbi T n nn NW sv NV p ds one)) := by
  have hT : ∀ k, k < n → T k < 256 := fun k hk' => (rr0.1.2.2 k hk').1
  have rt := rr0.2.1
  have rb := (rkk_k (T := T) (n := n) (p := p)).1
  have kb := tkk_lt (T := T) (n := n) (p := p) hT
  have o120 := rr0.2.2.2.2.2.2.1
  have f1 := rr0.2.2.2.2.2.2.2.2.1
  have n16 := rr0.2.2.2.2.1.2.1
  have f13 := rr0.2.2.2.2.2.2.2.2.2.1
  have n6 := rr0.1.2.1
  have hfs := f1
  have t9 : tkn T n p ≤ 999 := vf_999
  have s6 := tks_le (T := T) (n := n) (p := p)
  refine xq_n 11 [0, 1, 2] [(0, .ref 39), (1, .int (xg 0 h.2.1 39 10)), (2, .int (xg 0 h.2.1 39 8))] [.ref 39] h [] 9 hq rfl trivial (fun hq => ?_)
  rw [show (xg 0 h.2.1 39 10) = (nI (tkn T n p)) from rt.2.2.2.1 (by omega)]
  rw [show (xg 0 h.2.1 39 8) = (nI (tks T n p)) from rt.1]
  have nz1 : tkk T n p ≠ 0 := by omega
  have le1 := tke_le nz1
  refine xq_run hq rfl rfl (go_q hq (rr0.1) (rt.2.2.2.2.2 (by omega)) le1) ?_
  rintro v1 h1 ⟨rfl, g1, t1⟩
  have hq := fx_q g1 hq
  have rb1 := (rkk_k (T := T) (n := n) (p := tke T n p)).1
  have kb1 := tkk_lt (T := T) (n := n) (p := tke T n p) hT
  refine xq_n 17 [0, 1, 2] [(0, .ref 39), (1, .int (nI (tkn T n p))), (2, .int (nI (tks T n p)))] [.int 42, .ref 39] h1 [] 4 hq rfl trivial (fun hq => ?_)
  refine xq_run hq rfl rfl (rsg_q (c := 42) (by decide) (by decide) hT (t1) hq) ?_
  rintro v2 h_v2 ⟨rfl, rfl⟩
  cases b3 : (decide (tkk T n (tke T n p) = 42)) with
  | true =>
    have db3 := of_decide_eq_true b3
    refine xq_n 34 [0, 1, 2] [(0, .ref 39), (1, .int (nI (tkn T n p))), (2, .int (nI (tks T n p)))] [.ref 39] (xh_ui h1 48 ((xg 0 h1.2.1 39 28).toNatClampNeg) (nI (tkn T n p))) [false] 10 hq rfl ⟨rfl, trivial⟩ (fun _ => ?_)
    rw [show (xg 0 h1.2.1 39 28) = (nI (fs.length - 1)) from (fx_i g1 rfl).trans (rr0.2.2.2.2.2.2.2.1)]
    rw [show ((nI (fs.length - 1)).toNatClampNeg) = (fs.length - 1) from nI_clamp (by omega)]
    have hq : a_rq a_tb (xh_ui h1 48 (fs.length - 1) (nI (tkn T n p))) := a_rq_ui hq
    have nz4 : tkk T n (tke T n p) ≠ 0 := by omega
    have le4 := tke_le nz4
    refine xq_run hq rfl rfl (go_q hq (rtp_f (S := rS) (L := gL) rr0.1 (fx_ui (fx_t (fx_0) (fx_w g1 (fun _ _ => gS_r) (fun _ _ z => z))) rfl) rfl (fun _ => rfl)) ((gx_o (by decide)).trans (t1.2.2.2.2.2 (by omega))) le4) ?_
    rintro v4 h4 ⟨rfl, g4, t4⟩
    have hq := fx_q g4 hq
    have rb4 := (rkk_k (T := T) (n := n) (p := tke T n (tke T n p))).1
    have kb4 := tkk_lt (T := T) (n := n) (p := tke T n (tke T n p)) hT
    refine xq_n 38 [0, 1, 2] [(0, .ref 39), (1, .int (nI (tkn T n p))), (2, .int (nI (tks T n p)))] [.ref 39] h4 [] 3 hq rfl trivial (fun hq => ?_)
    have er : bi T n mem nn NW p o fs = bo T n mem nn NW (tke T n (tke T n p)) o fs := by
      unfold bi
      repeat (first | rw [if_pos (by omega)] | rw [if_neg (by omega)] | rw [if_pos b3] | rw [if_neg (by rw [b3]; decide)])
      try rfl
    have ev : vbi T n nn NW sv NV p ds one = vbo T n nn NW sv NV (tke T n (tke T n p)) (vw (nI (tkn T n p)) ds) one := by unfold vbi; rw [if_pos (by omega)]
    refine xq_run hq rfl rfl (xq_and (bo_q ⟨rtp_f (S := rS) (L := gL) rr0.1 (fx_t (fx_ui (fx_t (fx_0) (fx_w g1 (fun _ _ => gS_r) (fun _ _ z => z))) rfl) (fx_w g4 (fun _ _ => gS_r) (fun _ _ z => z))) rfl (fun _ => rfl), t4, (fx_i g4 rfl).trans ((gx_o (by decide)).trans ((fx_i g1 rfl).trans (rr0.2.2.1))), rr0.2.2.2.1, nms_f (S := rS) (L := gL) rr0.2.2.2.2.1 (fx_t (fx_ui (fx_t (fx_0) (fx_w g1 (fun _ _ => gS_r) (fun _ _ z => z))) rfl) (fx_w g4 (fun _ _ => gS_r) (fun _ _ z => z))) rfl (fun _ => rfl), (fx_i g4 rfl).trans ((gx_o (by decide)).trans ((fx_i g1 rfl).trans (rr0.2.2.2.2.2.1))), by omega, (fx_i g4 rfl).trans ((gx_o (by decide)).trans ((fx_i g1 rfl).trans (rr0.2.2.2.2.2.2.2.1))), rr0.2.2.2.2.2.2.2.2.1, rr0.2.2.2.2.2.2.2.2.2.1, frs_c (fun k hk' => (fx_i g4 rfl).trans ((gx_o (by decide)).trans (fx_i g1 rfl))) rr0.2.2.2.2.2.2.2.2.2.2.1, (fx_i g4 rfl).trans ((gx_o (by decide)).trans ((fx_i g1 rfl).trans (rr0.2.2.2.2.2.2.2.2.2.2.2)))⟩ hq) (bo_d s4 (dfr_go s4 (dfr_w48 s4 hfs (dfr_go s4 (dt) g1)) g4) ((fx_i g4 rfl).trans ((gx_o (by decide)).trans ((fx_i g1 rfl).trans (d45)))) (dnm_f (S := rS) (L := gL) dn (fx_t (fx_ui (fx_t (fx_0) (fx_w g1 (fun _ _ => gS_r) (fun _ _ z => z))) rfl) (fx_w g4 (fun _ _ => gS_r) (fun _ _ z => z))) (fun _ => rfl)) ⟨rtp_f (S := rS) (L := gL) rr0.1 (fx_t (fx_ui (fx_t (fx_0) (fx_w g1 (fun _ _ => gS_r) (fun _ _ z => z))) rfl) (fx_w g4 (fun _ _ => gS_r) (fun _ _ z => z))) rfl (fun _ => rfl), t4, (fx_i g4 rfl).trans ((gx_o (by decide)).trans ((fx_i g1 rfl).trans (rr0.2.2.1))), rr0.2.2.2.1, nms_f (S := rS) (L := gL) rr0.2.2.2.2.1 (fx_t (fx_ui (fx_t (fx_0) (fx_w g1 (fun _ _ => gS_r) (fun _ _ z => z))) rfl) (fx_w g4 (fun _ _ => gS_r) (fun _ _ z => z))) rfl (fun _ => rfl), (fx_i g4 rfl).trans ((gx_o (by decide)).trans ((fx_i g1 rfl).trans (rr0.2.2.2.2.2.1))), by omega, (fx_i g4 rfl).trans ((gx_o (by decide)).trans ((fx_i g1 rfl).trans (rr0.2.2.2.2.2.2.2.1))), rr0.2.2.2.2.2.2.2.2.1, rr0.2.2.2.2.2.2.2.2.2.1, frs_c (fun k hk' => (fx_i g4 rfl).trans ((gx_o (by decide)).trans (fx_i g1 rfl))) rr0.2.2.2.2.2.2.2.2.2.2.1, (fx_i g4 rfl).trans ((gx_o (by decide)).trans ((fx_i g1 rfl).trans (rr0.2.2.2.2.2.2.2.2.2.2.2)))⟩ hq)) ?_
    rintro v5 h5 ⟨⟨g5, l5, q5⟩, dq5⟩
    have hq := fx_q g5 hq
    rw [er, ev]
    have hv5 : ∃ x, v5 = some (.int x) := by
      cases hr5 : (bo T n mem nn NW (tke T n (tke T n p)) o fs) with
      | inl s => obtain ⟨a1, a2, a3, a4⟩ := s; exact ⟨1, (l5 _ _ _ _ hr5).1⟩
      | inr e => obtain ⟨a1, a2⟩ := e; exact ⟨0, (q5 _ _ hr5).1⟩
    obtain ⟨x5, rfl⟩ := hv5
    exact xq_ret rfl rfl rfl dq5
  | false =>
    have db3 := of_decide_eq_false b3
    refine xq_n 53 [0, 1, 2] [(0, .ref 39), (1, .int (nI (tkn T n p))), (2, .int (nI (tks T n p)))] [.ref 39] (xh_ui h1 48 ((xg 0 h1.2.1 39 28).toNatClampNeg) (Int32.ofInt 1)) [true] 10 hq rfl ⟨rfl, trivial⟩ (fun _ => ?_)
    rw [show (xg 0 h1.2.1 39 28) = (nI (fs.length - 1)) from (fx_i g1 rfl).trans (rr0.2.2.2.2.2.2.2.1)]
    rw [show ((nI (fs.length - 1)).toNatClampNeg) = (fs.length - 1) from nI_clamp (by omega)]
    have hq : a_rq a_tb (xh_ui h1 48 (fs.length - 1) (Int32.ofInt 1)) := a_rq_ui hq
    refine xq_run hq rfl rfl (rw4_q hT (rtk_ui (t1) rfl) hq) ?_
    rintro v6 h_v6 ⟨rfl, rfl⟩
    cases b7 : (ky T n (tke T n p) 4) with
    | true =>
      have db7 := of_decide_eq_true b7
      cases c8 : xe_c .ne (nI (tkn T n p)) 0 with
      | true =>
        have z8 : (tkn T n p) ≠ 0 := nq_net (a := (tkn T n p)) (b := 0) (by omega) (by omega) c8
        cases c9 : xe_c .ne (nI o) 120 with
        | true =>
          have z9 : o ≠ 120 := nq_net (a := o) (b := 120) (by omega) (by omega) c9
          refine xq_n 104 [0, 1, 2] [(0, .ref 39), (1, .int (nI (tkn T n p))), (2, .int (nI (tks T n p)))] [.int (nI (tkn T n p)), .ref 39] (xh_ui (xh_ui h1 48 (fs.length - 1) (Int32.ofInt 1)) 39 27 ((xg 0 (xh_ui h1 48 (fs.length - 1) (Int32.ofInt 1)).2.1 39 27) + (Int32.ofInt 1))) [true, true, true] 17 hq rfl ⟨rfl, c8, (show xe_c .ne (xg 0 (xh_ui h1 48 (fs.length - 1) (Int32.ofInt 1)).2.1 39 27) 120 = true by rw [show (xg 0 (xh_ui h1 48 (fs.length - 1) (Int32.ofInt 1)).2.1 39 27) = (nI o) from (gx_o (by decide)).trans ((fx_i g1 rfl).trans (rr0.2.2.2.2.2.1))]; exact c9), trivial⟩ (fun _ => ?_)
          rw [show (xg 0 (xh_ui h1 48 (fs.length - 1) (Int32.ofInt 1)).2.1 39 27) = (nI o) from (gx_o (by decide)).trans ((fx_i g1 rfl).trans (rr0.2.2.2.2.2.1))]
          rw [show ((nI o) + (Int32.ofInt 1)) = nI (o + 1) from nI_1 _]
          have hq : a_rq a_tb (xh_ui (xh_ui h1 48 (fs.length - 1) (Int32.ofInt 1)) 39 27 (nI (o + 1))) := a_rq_ui hq
          have er : bi T n mem nn NW p o fs = bls T n (tke T n p) (o + 1) fs := by
            unfold bi
            repeat (first | rw [if_pos (by omega)] | rw [if_neg (by omega)] | rw [if_pos b3] | rw [if_neg (by rw [b3]; decide)] | rw [if_pos b7] | rw [if_neg (by rw [b7]; decide)])
            try rfl
          have ev : vbi T n nn NW sv NV p ds one = (vL (nI (tkn T n p)) :: vw 1 ds, one) := by unfold vbi; rw [if_neg (by omega)]
          refine xq_run hq rfl rfl (xq_and (bls_q ⟨rtp_f (S := rS) (L := gL) rr0.1 (fx_ui (fx_ui (fx_t (fx_0) (fx_w g1 (fun _ _ => gS_r) (fun _ _ z => z))) rfl) rfl) rfl (fun _ => rfl), rtk_ui (rtk_ui (t1) rfl) rfl, (gx_k (by decide)).trans ((gx_o (by decide)).trans ((fx_i g1 rfl).trans (rr0.2.2.1))), rr0.2.2.2.1, nms_f (S := rS) (L := gL) rr0.2.2.2.2.1 (fx_ui (fx_ui (fx_t (fx_0) (fx_w g1 (fun _ _ => gS_r) (fun _ _ z => z))) rfl) rfl) rfl (fun _ => rfl), gx_s, by omega, (gx_k (by decide)).trans ((gx_o (by decide)).trans ((fx_i g1 rfl).trans (rr0.2.2.2.2.2.2.2.1))), rr0.2.2.2.2.2.2.2.2.1, rr0.2.2.2.2.2.2.2.2.2.1, frs_c (fun k hk' => (gx_o (by decide)).trans ((gx_o (by decide)).trans (fx_i g1 rfl))) rr0.2.2.2.2.2.2.2.2.2.2.1, (gx_k (by decide)).trans ((gx_o (by decide)).trans ((fx_i g1 rfl).trans (rr0.2.2.2.2.2.2.2.2.2.2.2)))⟩ hq) (bls_d (a := (tkn T n p)) s4 (dfr_39 s4 (dfr_w48 s4 hfs (dfr_go s4 (dt) g1))) ((gx_o (by decide)).trans ((gx_o (by decide)).trans ((fx_i g1 rfl).trans (d45)))) ⟨rtp_f (S := rS) (L := gL) rr0.1 (fx_ui (fx_ui (fx_t (fx_0) (fx_w g1 (fun _ _ => gS_r) (fun _ _ z => z))) rfl) rfl) rfl (fun _ => rfl), rtk_ui (rtk_ui (t1) rfl) rfl, (gx_k (by decide)).trans ((gx_o (by decide)).trans ((fx_i g1 rfl).trans (rr0.2.2.1))), rr0.2.2.2.1, nms_f (S := rS) (L := gL) rr0.2.2.2.2.1 (fx_ui (fx_ui (fx_t (fx_0) (fx_w g1 (fun _ _ => gS_r) (fun _ _ z => z))) rfl) rfl) rfl (fun _ => rfl), gx_s, by omega, (gx_k (by decide)).trans ((gx_o (by decide)).trans ((fx_i g1 rfl).trans (rr0.2.2.2.2.2.2.2.1))), rr0.2.2.2.2.2.2.2.2.1, rr0.2.2.2.2.2.2.2.2.2.1, frs_c (fun k hk' => (gx_o (by decide)).trans ((gx_o (by decide)).trans (fx_i g1 rfl))) rr0.2.2.2.2.2.2.2.2.2.2.1, (gx_k (by decide)).trans ((gx_o (by decide)).trans ((fx_i g1 rfl).trans (rr0.2.2.2.2.2.2.2.2.2.2.2)))⟩ hq)) ?_
          rintro v10 h10 ⟨⟨g10, l10, q10⟩, dq10⟩
          have hq := fx_q g10 hq
          rw [er, ev]
          have hv10 : ∃ x, v10 = some (.int x) := by
            cases hr10 : (bls T n (tke T n p) (o + 1) fs) with
            | inl s => obtain ⟨a1, a2, a3, a4⟩ := s; exact ⟨1, (l10 _ _ _ _ hr10).1⟩
            | inr e => obtain ⟨a1, a2⟩ := e; exact ⟨0, (q10 _ _ hr10).1⟩
          obtain ⟨x10, rfl⟩ := hv10
          exact xq_ret rfl rfl rfl dq10
        | false =>
          have z9 : o = 120 := nq_nef (a := o) (b := 120) (by omega) (by omega) c9
          refine xq_n 88 [0, 1, 2] [(0, .ref 39), (1, .int (nI (tkn T n p))), (2, .int (nI (tks T n p)))] [.int (nI (tks T n p)), .int (Int32.ofInt 4), .ref 39] (xh_ui h1 48 (fs.length - 1) (Int32.ofInt 1)) [true, true, false] 12 hq rfl ⟨rfl, c8, (show xe_c .ne (xg 0 (xh_ui h1 48 (fs.length - 1) (Int32.ofInt 1)).2.1 39 27) 120 = false by rw [show (xg 0 (xh_ui h1 48 (fs.length - 1) (Int32.ofInt 1)).2.1 39 27) = (nI o) from (gx_o (by decide)).trans ((fx_i g1 rfl).trans (rr0.2.2.2.2.2.1))]; exact c9), trivial⟩ (fun hq => ?_)
          refine xq_run hq rfl rfl (badAt_q (k := 4) (pl := (tks T n p)) hq) ?_
          rintro v11 h11 ⟨rfl, g11, f11, l11⟩
          have hq := fx_q g11 hq
          have er : bi T n mem nn NW p o fs = .inr (4, tks T n p) := by
            unfold bi
            repeat (first | rw [if_pos (by omega)] | rw [if_neg (by omega)] | rw [if_pos b3] | rw [if_neg (by rw [b3]; decide)] | rw [if_pos b7] | rw [if_neg (by rw [b7]; decide)])
            try rfl
          exact xq_ret rfl rfl rfl (dQ_r er)
      | false =>
        have z8 : (tkn T n p) = 0 := nq_nef (a := (tkn T n p)) (b := 0) (by omega) (by omega) c8
        refine xq_n 72 [0, 1, 2] [(0, .ref 39), (1, .int (nI (tkn T n p))), (2, .int (nI (tks T n p)))] [.int (nI (tks T n p)), .int (Int32.ofInt 2), .ref 39] (xh_ui h1 48 (fs.length - 1) (Int32.ofInt 1)) [true, false] 8 hq rfl ⟨rfl, c8, trivial⟩ (fun hq => ?_)
        refine xq_run hq rfl rfl (badAt_q (k := 2) (pl := (tks T n p)) hq) ?_
        rintro v12 h12 ⟨rfl, g12, f12, l12⟩
        have hq := fx_q g12 hq
        have er : bi T n mem nn NW p o fs = .inr (2, tks T n p) := by
          unfold bi
          repeat (first | rw [if_pos (by omega)] | rw [if_neg (by omega)] | rw [if_pos b3] | rw [if_neg (by rw [b3]; decide)] | rw [if_pos b7] | rw [if_neg (by rw [b7]; decide)])
          try rfl
        exact xq_ret rfl rfl rfl (dQ_r er)
    | false =>
      have db7 := of_decide_eq_false b7
      refine xq_n 61 [0, 1, 2] [(0, .ref 39), (1, .int (nI (tkn T n p))), (2, .int (nI (tks T n p)))] [.int (Int32.ofInt 1), .ref 39] (xh_ui h1 48 (fs.length - 1) (Int32.ofInt 1)) [false] 5 hq rfl ⟨rfl, trivial⟩ (fun hq => ?_)
      refine xq_run hq rfl rfl (bad_q (k := 1) hT (rtk_ui (t1) rfl) hq) ?_
      rintro v13 h13 ⟨rfl, g13, f13, l13⟩
      have hq := fx_q g13 hq
      rw [show (if rkk T n (tke T n p) = 1 then 1 else 1) = 1 by split <;> rfl] at f13
      have er : bi T n mem nn NW p o fs = .inr (1, tks T n (tke T n p)) := by
        unfold bi
        repeat (first | rw [if_pos (by omega)] | rw [if_neg (by omega)] | rw [if_pos b3] | rw [if_neg (by rw [b3]; decide)] | rw [if_pos b7] | rw [if_neg (by rw [b7]; decide)])
        try rfl
      exact xq_ret rfl rfl rfl (dQ_r er)
set_option maxRecDepth 100000 in
set_option maxHeartbeats 4000000 in
theorem bg_d {f p o ty : Nat} {fs : List Nat} {h : xh_H} {sv : Nat} {ds : List vF} {one : Bool} (s4 : sv < 4096) (dt : dfr h sv fs ds) (d45 : xg 0 h.2.1 45 sv = bl one) {NV : Nat → Bool} (dn : dnm h sv nn NV) (rr0 : rr h T n mem nn NW p o fs) (hty : fs.head? = some ty) (e47 : xg 0 h.2.1 47 (fs.length - 1) = nI ty) (ty2 : ty ≤ 2) (hq : a_rq a_tb h) : xq f xi_X10_begin xmi_X10_begin 0 [(0, .ref 39)] [] h (fun v h' => dQ h' sv (bg T n mem nn NW p o fs) (vbg T n nn NW sv NV p fs ds one)) := by
  have hT : ∀ k, k < n → T k < 256 := fun k hk' => (rr0.1.2.2 k hk').1
  have rt := rr0.2.1
  have rb := (rkk_k (T := T) (n := n) (p := p)).1
  have kb := tkk_lt (T := T) (n := n) (p := p) hT
  have o120 := rr0.2.2.2.2.2.2.1
  have f1 := rr0.2.2.2.2.2.2.2.2.1
  have n16 := rr0.2.2.2.2.1.2.1
  have f13 := rr0.2.2.2.2.2.2.2.2.2.1
  have n6 := rr0.1.2.1
  have hh : fs.head? = some 2 ↔ ty = 2 := by rw [hty]; exact ⟨fun e => Option.some.inj e, fun e => by rw [e]⟩
  cases c1 : xe_c .ne (nI ty) (Int32.ofInt 2) with
  | true =>
    have z1 : ty ≠ 2 := nq_net (a := ty) (b := 2) (by omega) (by omega) c1
    refine xq_n 27 [0] [(0, .ref 39)] [.ref 39] h [true] 10 hq rfl ⟨(show xe_c .ne (xg 0 h.2.1 47 ((xg 0 h.2.1 39 28).toNatClampNeg)) (Int32.ofInt 2) = true by rw [show (xg 0 h.2.1 47 ((xg 0 h.2.1 39 28).toNatClampNeg)) = (nI ty) from (by rw [show (xg 0 h.2.1 39 28) = (nI (fs.length - 1)) from rr0.2.2.2.2.2.2.2.1, show ((nI (fs.length - 1)).toNatClampNeg) = (fs.length - 1) from nI_clamp (by omega)]; exact e47)]; exact c1), trivial⟩ (fun hq => ?_)
    have er : bg T n mem nn NW p o fs = bo T n mem nn NW p o fs := by
      unfold bg
      first | rw [if_pos ⟨hh.mpr (by omega), by omega⟩] | rw [if_neg (by rintro ⟨e1, e2⟩; have := hh.mp e1; omega)]
    have ev : vbg T n nn NW sv NV p fs ds one = vbo T n nn NW sv NV p ds one := by unfold vbg; rw [if_neg (by rintro ⟨e1, e2⟩; have := hh.mp e1; omega)]
    refine xq_run hq rfl rfl (xq_and (bo_q rr0 hq) (bo_d s4 dt d45 dn rr0 hq)) ?_
    rintro v2 h2 ⟨⟨g2, l2, q2⟩, dq2⟩
    have hq := fx_q g2 hq
    rw [er, ev]
    have hv2 : ∃ x, v2 = some (.int x) := by
      cases hr2 : (bo T n mem nn NW p o fs) with
      | inl s => obtain ⟨a1, a2, a3, a4⟩ := s; exact ⟨1, (l2 _ _ _ _ hr2).1⟩
      | inr e => obtain ⟨a1, a2⟩ := e; exact ⟨0, (q2 _ _ hr2).1⟩
    obtain ⟨x2, rfl⟩ := hv2
    exact xq_ret rfl rfl rfl dq2
  | false =>
    have z1 : ty = 2 := nq_nef (a := ty) (b := 2) (by omega) (by omega) c1
    cases c3 : xe_c .ne (nI (rkk T n p)) (Int32.ofInt 3) with
    | true =>
      have z3 : (rkk T n p) ≠ 3 := nq_net (a := (rkk T n p)) (b := 3) (by omega) (by omega) c3
      have yc3 := mt (rk3 (T := T) (n := n) (p := p)).mpr z3
      refine xq_n 27 [0] [(0, .ref 39)] [.ref 39] h [false, true] 14 hq rfl ⟨(show xe_c .ne (xg 0 h.2.1 47 ((xg 0 h.2.1 39 28).toNatClampNeg)) (Int32.ofInt 2) = false by rw [show (xg 0 h.2.1 47 ((xg 0 h.2.1 39 28).toNatClampNeg)) = (nI ty) from (by rw [show (xg 0 h.2.1 39 28) = (nI (fs.length - 1)) from rr0.2.2.2.2.2.2.2.1, show ((nI (fs.length - 1)).toNatClampNeg) = (fs.length - 1) from nI_clamp (by omega)]; exact e47)]; exact c1), (show xe_c .ne (xg 0 h.2.1 39 9) (Int32.ofInt 3) = true by rw [show (xg 0 h.2.1 39 9) = (nI (rkk T n p)) from rt.2.1]; exact c3), trivial⟩ (fun hq => ?_)
      have er : bg T n mem nn NW p o fs = bo T n mem nn NW p o fs := by
        unfold bg
        first | rw [if_pos ⟨hh.mpr (by omega), by omega⟩] | rw [if_neg (by rintro ⟨e1, e2⟩; have := hh.mp e1; omega)]
      have ev : vbg T n nn NW sv NV p fs ds one = vbo T n nn NW sv NV p ds one := by unfold vbg; rw [if_neg (by rintro ⟨e1, e2⟩; have := hh.mp e1; omega)]
      refine xq_run hq rfl rfl (xq_and (bo_q rr0 hq) (bo_d s4 dt d45 dn rr0 hq)) ?_
      rintro v4 h4 ⟨⟨g4, l4, q4⟩, dq4⟩
      have hq := fx_q g4 hq
      rw [er, ev]
      have hv4 : ∃ x, v4 = some (.int x) := by
        cases hr4 : (bo T n mem nn NW p o fs) with
        | inl s => obtain ⟨a1, a2, a3, a4⟩ := s; exact ⟨1, (l4 _ _ _ _ hr4).1⟩
        | inr e => obtain ⟨a1, a2⟩ := e; exact ⟨0, (q4 _ _ hr4).1⟩
      obtain ⟨x4, rfl⟩ := hv4
      exact xq_ret rfl rfl rfl dq4
    | false =>
      have z3 : (rkk T n p) = 3 := nq_nef (a := (rkk T n p)) (b := 3) (by omega) (by omega) c3
      have yc3 := (rk3 (T := T) (n := n) (p := p)).mp z3
      refine xq_n 22 [0] [(0, .ref 39)] [.ref 39] h [false, false] 14 hq rfl ⟨(show xe_c .ne (xg 0 h.2.1 47 ((xg 0 h.2.1 39 28).toNatClampNeg)) (Int32.ofInt 2) = false by rw [show (xg 0 h.2.1 47 ((xg 0 h.2.1 39 28).toNatClampNeg)) = (nI ty) from (by rw [show (xg 0 h.2.1 39 28) = (nI (fs.length - 1)) from rr0.2.2.2.2.2.2.2.1, show ((nI (fs.length - 1)).toNatClampNeg) = (fs.length - 1) from nI_clamp (by omega)]; exact e47)]; exact c1), (show xe_c .ne (xg 0 h.2.1 39 9) (Int32.ofInt 3) = false by rw [show (xg 0 h.2.1 39 9) = (nI (rkk T n p)) from rt.2.1]; exact c3), trivial⟩ (fun hq => ?_)
      have er : bg T n mem nn NW p o fs = bi T n mem nn NW p o fs := by
        unfold bg
        first | rw [if_pos ⟨hh.mpr (by omega), by omega⟩] | rw [if_neg (by rintro ⟨e1, e2⟩; have := hh.mp e1; omega)]
      have ev : vbg T n nn NW sv NV p fs ds one = vbi T n nn NW sv NV p ds one := by unfold vbg; rw [if_pos ⟨hh.mpr (by omega), by omega⟩]
      refine xq_run hq rfl rfl (xq_and (bi_q rr0 (by omega) hq) (bi_d s4 dt d45 dn rr0 (by omega) hq)) ?_
      rintro v5 h5 ⟨⟨g5, l5, q5⟩, dq5⟩
      have hq := fx_q g5 hq
      rw [er, ev]
      have hv5 : ∃ x, v5 = some (.int x) := by
        cases hr5 : (bi T n mem nn NW p o fs) with
        | inl s => obtain ⟨a1, a2, a3, a4⟩ := s; exact ⟨1, (l5 _ _ _ _ hr5).1⟩
        | inr e => obtain ⟨a1, a2⟩ := e; exact ⟨0, (q5 _ _ hr5).1⟩
      obtain ⟨x5, rfl⟩ := hv5
      exact xq_ret rfl rfl rfl dq5
end XDB
