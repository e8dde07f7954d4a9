section
section XDB
variable {T : Nat → Nat} {n mem nn : Nat} {NW : Nat → Nat}
/-- what the reference holds of one set, level by level -/
def dfr (h : xh_H) (sv : Nat) : List Nat → List vF → Prop
  | [], [] => True
  | t :: fs, x :: ds => (t = 2 → xg 0 h.2.1 46 (4096 * fs.length + sv) = x.2.2.1 ∧ xg 0 h.2.1 48 fs.length = x.2.2.2.1 ∧ xg 0 h.2.1 49 fs.length = x.2.2.2.2) ∧ (t ≠ 2 → xg 0 h.2.1 41 (4096 * fs.length + sv) = bl x.1 ∧ xg 0 h.2.1 42 (4096 * fs.length + sv) = bl x.2.1) ∧ dfr h sv fs ds
  | _, _ => False
theorem dfr_5 {h h' : xh_H} {sv : Nat} (s4 : sv < 4096) : ∀ {fs : List Nat} {ds : List vF}, (∀ k, k < 4096 * fs.length → xg 0 h'.2.1 41 k = xg 0 h.2.1 41 k) → (∀ k, k < 4096 * fs.length → xg 0 h'.2.1 42 k = xg 0 h.2.1 42 k) → (∀ k, k < 4096 * fs.length → xg 0 h'.2.1 46 k = xg 0 h.2.1 46 k) → (∀ k, k < fs.length → xg 0 h'.2.1 48 k = xg 0 h.2.1 48 k) → (∀ k, k < fs.length → xg 0 h'.2.1 49 k = xg 0 h.2.1 49 k) → dfr h sv fs ds → dfr h' sv fs ds := by
  intro fs
  induction fs with
  | nil =>
    intro ds _ _ _ _ _ d
    cases ds with
    | nil => trivial
    | cons x ds => exact d
  | cons t fs ih =>
    intro ds e1 e2 e3 e4 e5 d
    cases ds with
    | nil => exact d
    | cons x ds =>
      have L : (t :: fs).length = fs.length + 1 := rfl
      rw [L] at e1 e2 e3 e4 e5
      refine ⟨fun z => ?_, fun z => ?_, ih (fun k hk' => e1 k (by omega)) (fun k hk' => e2 k (by omega)) (fun k hk' => e3 k (by omega)) (fun k hk' => e4 k (by omega)) (fun k hk' => e5 k (by omega)) d.2.2⟩
      · rw [e3 _ (by omega), e4 _ (by omega), e5 _ (by omega)]
        exact d.1 z
      · rw [e1 _ (by omega), e2 _ (by omega)]
        exact d.2.1 z
theorem dfr_39 {h : xh_H} {sv k : Nat} {x : Int32} (s4 : sv < 4096) {fs : List Nat} {ds : List vF} (d : dfr h sv fs ds) : dfr (xh_ui h 39 k x) sv fs ds := dfr_5 s4 (fun _ _ => gx_o (by decide)) (fun _ _ => gx_o (by decide)) (fun _ _ => gx_o (by decide)) (fun _ _ => gx_o (by decide)) (fun _ _ => gx_o (by decide)) d
theorem dfr_45 {h : xh_H} {sv k : Nat} {x : Int32} (s4 : sv < 4096) {fs : List Nat} {ds : List vF} (d : dfr h sv fs ds) : dfr (xh_ui h 45 k x) sv fs ds := dfr_5 s4 (fun _ _ => gx_o (by decide)) (fun _ _ => gx_o (by decide)) (fun _ _ => gx_o (by decide)) (fun _ _ => gx_o (by decide)) (fun _ _ => gx_o (by decide)) d
theorem dfr_go {h h' : xh_H} {sv : Nat} (s4 : sv < 4096) {fs : List Nat} {ds : List vF} (d : dfr h sv fs ds) (g : fx gS gL h h') : dfr h' sv fs ds := dfr_5 s4 (fun _ _ => fx_i g rfl) (fun _ _ => fx_i g rfl) (fun _ _ => fx_i g rfl) (fun _ _ => fx_i g rfl) (fun _ _ => fx_i g rfl) d
theorem dfr_48 {h : xh_H} {sv : Nat} {x : Int32} (s4 : sv < 4096) {t : Nat} {fs : List Nat} {ds : List vF} (d : dfr h sv (t :: fs) ds) : dfr (xh_ui h 48 fs.length x) sv (t :: fs) (vw x ds) := by
  cases ds with
  | nil => exact absurd d (by unfold dfr; exact id)
  | cons y ds =>
    obtain ⟨y1, y2, y3, y4, y5⟩ := y
    refine ⟨fun z => ⟨(gx_o (by decide)).trans (d.1 z).1, gx_s, (gx_o (by decide)).trans (d.1 z).2.2⟩, fun z => ⟨(gx_o (by decide)).trans (d.2.1 z).1, (gx_o (by decide)).trans (d.2.1 z).2⟩, dfr_5 s4 (fun _ _ => gx_o (by decide)) (fun _ _ => gx_o (by decide)) (fun _ _ => gx_o (by decide)) (fun k hk' => gx_k (by omega)) (fun _ _ => gx_o (by decide)) d.2.2⟩
/-- what opening a level may change -/
def oD (t c k : Nat) : Bool := (Nat.beq c 39 && ((Nat.ble 7 k && Nat.ble k 12) || Nat.beq k 29)) || (((Nat.beq c 41 || (Nat.beq c 42 || Nat.beq c 46)) && Nat.ble (4096 * t) k) || ((Nat.beq c 47 || (Nat.beq c 48 || Nat.beq c 49)) && Nat.beq k t))
theorem gS_oD {t c k : Nat} (h : oD t c k = false) : gS c k = false := by
  unfold oD at h
  unfold gS
  have h1 := (or_f h).1
  cases h2 : Nat.beq c 39 with
  | false => rfl
  | true => rw [h2] at h1; exact (or_f h1).1
theorem oDw1 {t k : Nat} (h : 4096 * t ≤ k) : oD t 41 k = true := by
  show (Nat.ble (4096 * t) k || false) = true
  rw [Nat.ble_eq.mpr h]
  rfl
theorem oDw2 {t k : Nat} (h : 4096 * t ≤ k) : oD t 42 k = true := by
  show (Nat.ble (4096 * t) k || false) = true
  rw [Nat.ble_eq.mpr h]
  rfl
theorem oDw6 {t k : Nat} (h : 4096 * t ≤ k) : oD t 46 k = true := by
  show (Nat.ble (4096 * t) k || false) = true
  rw [Nat.ble_eq.mpr h]
  rfl
theorem oDe7 {t : Nat} : oD t 47 t = true := by
  show Nat.beq t t = true
  exact Nat.beq_refl t
theorem oDe8 {t : Nat} : oD t 48 t = true := by
  show Nat.beq t t = true
  exact Nat.beq_refl t
theorem oDe9 {t : Nat} : oD t 49 t = true := by
  show Nat.beq t t = true
  exact Nat.beq_refl t
theorem oDn1 {t k : Nat} (h : k < 4096 * t) : oD t 41 k = false := by
  show (Nat.ble (4096 * t) k || false) = false
  rw [show Nat.ble (4096 * t) k = false from by rw [Bool.eq_false_iff]; intro z; have := Nat.ble_eq.mp z; omega]
  rfl
theorem oDn2 {t k : Nat} (h : k < 4096 * t) : oD t 42 k = false := by
  show (Nat.ble (4096 * t) k || false) = false
  rw [show Nat.ble (4096 * t) k = false from by rw [Bool.eq_false_iff]; intro z; have := Nat.ble_eq.mp z; omega]
  rfl
theorem oDn6 {t k : Nat} (h : k < 4096 * t) : oD t 46 k = false := by
  show (Nat.ble (4096 * t) k || false) = false
  rw [show Nat.ble (4096 * t) k = false from by rw [Bool.eq_false_iff]; intro z; have := Nat.ble_eq.mp z; omega]
  rfl
theorem oDn8 {t k : Nat} (h : k < t) : oD t 48 k = false := by
  show Nat.beq k t = false
  rw [Bool.eq_false_iff]; intro z; have := Nat.eq_of_beq_eq_true z; omega
theorem oDn9 {t k : Nat} (h : k < t) : oD t 49 k = false := by
  show Nat.beq k t = false
  rw [Bool.eq_false_iff]; intro z; have := Nat.eq_of_beq_eq_true z; omega
theorem dfr_op {h h' : xh_H} {sv : Nat} {L : Nat → Nat → Bool} (s4 : sv < 4096) {fs : List Nat} {ds : List vF} (d : dfr h sv fs ds) (g : fx (oD fs.length) L h h') : dfr h' sv fs ds := dfr_5 s4 (fun _ hk' => fx_i g (oDn1 hk')) (fun _ hk' => fx_i g (oDn2 hk')) (fun _ hk' => fx_i g (oDn6 hk')) (fun _ hk' => fx_i g (oDn8 hk')) (fun _ hk' => fx_i g (oDn9 hk')) d
/-- a loop over all sets, seen at one of them -/
theorem lp_w {h : xh_H} {c b i sv : Nat} {y a z : Int32} (v : xg 0 h.2.1 c (b + sv) = if sv < i then a else z) (e : i = sv → y = a) : xg 0 (xh_ui h c (b + i) y).2.1 c (b + sv) = if sv < i + 1 then a else z := by
  by_cases w : i = sv
  · rw [← w, gx_s, if_pos (by omega)]
    exact e w
  · rw [gx_k (by omega), v]
    by_cases u : sv < i
    · rw [if_pos u, if_pos (by omega)]
    · rw [if_neg u, if_neg (by omega)]
theorem lp_w0 {h : xh_H} {c i sv : Nat} {y a z : Int32} (v : xg 0 h.2.1 c sv = if sv < i then a else z) (e : i = sv → y = a) : xg 0 (xh_ui h c i y).2.1 c sv = if sv < i + 1 then a else z := by
  by_cases w : i = sv
  · rw [← w, gx_s, if_pos (by omega)]
    exact e w
  · rw [gx_k (by omega), v]
    by_cases u : sv < i
    · rw [if_pos u, if_pos (by omega)]
    · rw [if_neg u, if_neg (by omega)]
theorem lp_n {x a z : Int32} {i sv : Nat} (v : x = if sv < i then a else z) (e : i = sv → z = a) : x = if sv < i + 1 then a else z := by
  rw [v]
  by_cases w : i = sv
  · rw [if_neg (by omega), if_pos (by omega)]
    exact e w
  · by_cases u : sv < i
    · rw [if_pos u, if_pos (by omega)]
    · rw [if_neg u, if_neg (by omega)]
theorem lp_1 {x a z : Int32} {i sv : Nat} (v : x = if sv < i then a else z) (h : sv < i) : x = a := by rw [v, if_pos h]
theorem lp_0 {x z : Int32} {sv : Nat} (a : Int32) (v : x = z) : x = if sv < 0 then a else z := by rw [v, if_neg (by omega)]
theorem idx_a {t i : Nat} : 4096 * nI t + nI i = nI (4096 * t + i) := by
  show nI 4096 * nI t + nI i = nI (4096 * t + i)
  rw [← nI_mul2, nI_add]
def dQ (h' : xh_H) (sv : Nat) (r : aRs) (x : List vF × Bool) : Prop := ∀ aw p' o' fs', r = .inl (aw, p', o', fs') → dfr h' sv fs' x.1 ∧ xg 0 h'.2.1 45 sv = bl x.2
theorem dQ_l {h' : xh_H} {sv aw p' o' : Nat} {fs' : List Nat} {r : aRs} {x : List vF × Bool} (er : r = .inl (aw, p', o', fs')) (a : dfr h' sv fs' x.1) (b : xg 0 h'.2.1 45 sv = bl x.2) : dQ h' sv r x := by
  subst er
  intro _ _ _ _ e
  cases e
  exact ⟨a, b⟩
theorem dQ_r {h' : xh_H} {sv : Nat} {e : Nat × Nat} {r : aRs} {x : List vF × Bool} (er : r = .inr e) : dQ h' sv r x := fun _ _ _ _ z => by rw [er] at z; cases z
def dnm (h : xh_H) (sv nn : Nat) (NV : Nat → Bool) : Prop := ∀ k, k < nn → xg 0 h.2.1 43 (4096 * k + sv) = bl (NV k)
set_option maxRecDepth 100000 in
set_option maxHeartbeats 4000000 in
theorem opr_dl {n e t sv : Nat} {T : Nat → Nat} {h0 : xh_H} {z41 z42 : Int32} (he : e ≤ n) (t12 : t ≤ 12) (s4 : sv < 4096) : ∀ (f i : Nat) (h : xh_H), a_rq a_tb h → fx (oD t) gL h0 h → rtp h T n → xg 0 h.2.1 39 7 = nI e → xg 0 h.2.1 39 28 = nI t → i ≤ 4096 → xg 0 h.2.1 41 (4096 * t + sv) = (if sv < i then 0 else z41) → xg 0 h.2.1 42 (4096 * t + sv) = (if sv < i then 1 else z42) → xq f xi_X10_openRule xmi_X10_openRule 12 [(0, .ref 39), (2, .int (nI i))] [] h (fun v h' => fx (oD t) gL h0 h' ∧ xg 0 h'.2.1 41 (4096 * t + sv) = 0 ∧ xg 0 h'.2.1 42 (4096 * t + sv) = 1) := by
  intro f
  induction f with
  | zero => intros; exact xq_0
  | succ f ih =>
    intro i h hq g0 hc e7 e28 i6 w41 w42
    cases c1 : xe_c .ge (nI i) 4096 with
    | true =>
      have z1 : i ≥ 4096 := nq_get (a := i) (b := 4096) (by omega) (by omega) c1
      refine xq_m 63 [0, 2] [(0, .ref 39), (2, .int (nI i))] [.ref 39] (xh_ui h 39 29 (Int32.ofInt 1)) [true] 9 hq rfl ⟨c1, trivial⟩ (fun _ => ?_)
      have hq : a_rq a_tb (xh_ui h 39 29 (Int32.ofInt 1)) := a_rq_ui hq
      refine xq_run hq rfl rfl (go_q hq (rtp_f (S := oD t) (L := gL) hc (fx_ui (fx_0) rfl) rfl (fun _ => rfl)) ((gx_k (by decide)).trans (e7)) he) ?_
      rintro v2 h2 ⟨rfl, g2, -⟩
      have hq := fx_q g2 hq
      exact xq_ret rfl rfl rfl ⟨fx_t (fx_ui (g0) rfl) (fx_w g2 (fun _ _ => gS_oD) (fun _ _ z => z)), ((fx_i g2 rfl).trans (gx_o (by decide))).trans (lp_1 w41 (by omega)), ((fx_i g2 rfl).trans (gx_o (by decide))).trans (lp_1 w42 (by omega))⟩
    | false =>
      have z1 : i < 4096 := nq_gef (a := i) (b := 4096) (by omega) (by omega) c1
      refine xq_m 12 [0, 2] [(0, .ref 39), (2, .int ((nI i) + Int32.ofInt 1))] [] (xh_ui (xh_ui h 41 (((4096 * (xg 0 h.2.1 39 28)) + (nI i)).toNatClampNeg) (vp_nar .boolean (Int32.ofInt 0))) 42 (((4096 * (xg 0 (xh_ui h 41 (((4096 * (xg 0 h.2.1 39 28)) + (nI i)).toNatClampNeg) (vp_nar .boolean (Int32.ofInt 0))).2.1 39 28)) + (nI i)).toNatClampNeg) (vp_nar .boolean (Int32.ofInt 1))) [false] 27 hq rfl ⟨c1, trivial⟩ (fun _ => ?_)
      rw [show (xg 0 (xh_ui h 41 (((4096 * (xg 0 h.2.1 39 28)) + (nI i)).toNatClampNeg) (vp_nar .boolean (Int32.ofInt 0))).2.1 39 28) = (nI t) from (gx_o (by decide)).trans (e28)]
      rw [show (xg 0 h.2.1 39 28) = (nI t) from e28]
      rw [show ((4096 * (nI t)) + (nI i)) = nI (4096 * t + i) from idx_a]
      rw [show (vp_nar .boolean (Int32.ofInt 0)) = Int32.ofInt 0 from rfl]
      rw [show (vp_nar .boolean (Int32.ofInt 1)) = Int32.ofInt 1 from rfl]
      rw [show ((nI (4096 * t + i)).toNatClampNeg) = (4096 * t + i) from nI_clamp (by omega)]
      rw [show ((nI i) + Int32.ofInt 1) = nI (i + 1) from nI_1 _]
      have hq : a_rq a_tb (xh_ui (xh_ui h 41 (4096 * t + i) (Int32.ofInt 0)) 42 (4096 * t + i) (Int32.ofInt 1)) := a_rq_ui (a_rq_ui hq)
      exact ih (i + 1) _ hq (fx_ui (fx_ui (g0) (oDw1 (by omega))) (oDw2 (by omega))) (rtp_f (S := oD t) (L := gL) hc (fx_ui (fx_ui (fx_0) (oDw1 (by omega))) (oDw2 (by omega))) rfl (fun _ => rfl)) ((gx_o (by decide)).trans ((gx_o (by decide)).trans (e7))) ((gx_o (by decide)).trans ((gx_o (by decide)).trans (e28))) (by omega) ((gx_o (by decide)).trans (lp_w (w41) (fun _ => rfl))) (lp_w (((gx_o (by decide)).trans w42)) (fun _ => rfl))
set_option maxRecDepth 100000 in
set_option maxHeartbeats 4000000 in
theorem opr_d {f n e t sv : Nat} {a : Int32} {T : Nat → Nat} {h : xh_H} (s4 : sv < 4096) (t12 : t ≤ 12) (he : e ≤ n) (hq : a_rq a_tb h) (hc : rtp h T n) (e7 : xg 0 h.2.1 39 7 = nI e) (e28 : xg 0 h.2.1 39 28 = nI t) : xq f xi_X10_openRule xmi_X10_openRule 0 [(0, .ref 39), (1, .int a)] [] h (fun v h' => fx (oD t) gL h h' ∧ xg 0 h'.2.1 41 (4096 * t + sv) = 0 ∧ xg 0 h'.2.1 42 (4096 * t + sv) = 1) := by
  refine xq_n 12 [0, 2] [(0, .ref 39), (2, .int (Int32.ofInt 0))] [] (xh_ui h 47 ((xg 0 h.2.1 39 28).toNatClampNeg) a) [] 10 hq rfl trivial (fun _ => ?_)
  rw [show (xg 0 h.2.1 39 28) = (nI t) from e28]
  rw [show ((nI t).toNatClampNeg) = t from nI_clamp (by omega)]
  have hq : a_rq a_tb (xh_ui h 47 t a) := a_rq_ui hq
  exact opr_dl he t12 s4 f 0 _ hq (fx_ui (fx_0) oDe7) (rtp_f (S := oD t) (L := gL) hc (fx_ui (fx_0) oDe7) rfl (fun _ => rfl)) ((gx_o (by decide)).trans (e7)) ((gx_o (by decide)).trans (e28)) (by omega) (lp_0 _ rfl) (lp_0 _ rfl)
set_option maxRecDepth 100000 in
set_option maxHeartbeats 4000000 in
theorem opl_dl {n e t sv : Nat} {T : Nat → Nat} {h0 : xh_H} {z46 a : Int32} (he : e ≤ n) (t12 : t ≤ 12) (s4 : sv < 4096) : ∀ (f i : Nat) (h : xh_H), a_rq a_tb h → fx (oD t) gL h0 h → rtp h T n → xg 0 h.2.1 39 7 = nI e → xg 0 h.2.1 39 28 = nI t → i ≤ 4096 → xg 0 h.2.1 46 (4096 * t + sv) = (if sv < i then 0 else z46) → xg 0 h.2.1 48 t = 1 → xg 0 h.2.1 49 t = a → xq f xi_X10_openList xmi_X10_openList 32 [(0, .ref 39), (2, .int (nI i))] [] h (fun v h' => fx (oD t) gL h0 h' ∧ xg 0 h'.2.1 46 (4096 * t + sv) = 0 ∧ xg 0 h'.2.1 48 t = 1 ∧ xg 0 h'.2.1 49 t = a) := by
  intro f
  induction f with
  | zero => intros; exact xq_0
  | succ f ih =>
    intro i h hq g0 hc e7 e28 i6 w46 w48 w49
    cases c1 : xe_c .ge (nI i) 4096 with
    | true =>
      have z1 : i ≥ 4096 := nq_get (a := i) (b := 4096) (by omega) (by omega) c1
      refine xq_m 67 [0, 2] [(0, .ref 39), (2, .int (nI i))] [.ref 39] (xh_ui h 39 29 (Int32.ofInt 1)) [true] 9 hq rfl ⟨c1, trivial⟩ (fun _ => ?_)
      have hq : a_rq a_tb (xh_ui h 39 29 (Int32.ofInt 1)) := a_rq_ui hq
      refine xq_run hq rfl rfl (go_q hq (rtp_f (S := oD t) (L := gL) hc (fx_ui (fx_0) rfl) rfl (fun _ => rfl)) ((gx_k (by decide)).trans (e7)) he) ?_
      rintro v2 h2 ⟨rfl, g2, -⟩
      have hq := fx_q g2 hq
      exact xq_ret rfl rfl rfl ⟨fx_t (fx_ui (g0) rfl) (fx_w g2 (fun _ _ => gS_oD) (fun _ _ z => z)), ((fx_i g2 rfl).trans (gx_o (by decide))).trans (lp_1 w46 (by omega)), (fx_i g2 rfl).trans ((gx_o (by decide)).trans (w48)), (fx_i g2 rfl).trans ((gx_o (by decide)).trans (w49))⟩
    | false =>
      have z1 : i < 4096 := nq_gef (a := i) (b := 4096) (by omega) (by omega) c1
      refine xq_m 32 [0, 2] [(0, .ref 39), (2, .int ((nI i) + Int32.ofInt 1))] [] (xh_ui h 46 (((4096 * (xg 0 h.2.1 39 28)) + (nI i)).toNatClampNeg) (Int32.ofInt 0)) [false] 17 hq rfl ⟨c1, trivial⟩ (fun _ => ?_)
      rw [show (xg 0 h.2.1 39 28) = (nI t) from e28]
      rw [show ((4096 * (nI t)) + (nI i)) = nI (4096 * t + i) from idx_a]
      rw [show ((nI (4096 * t + i)).toNatClampNeg) = (4096 * t + i) from nI_clamp (by omega)]
      rw [show ((nI i) + Int32.ofInt 1) = nI (i + 1) from nI_1 _]
      have hq : a_rq a_tb (xh_ui h 46 (4096 * t + i) (Int32.ofInt 0)) := a_rq_ui hq
      exact ih (i + 1) _ hq (fx_ui (g0) (oDw6 (by omega))) (rtp_f (S := oD t) (L := gL) hc (fx_ui (fx_0) (oDw6 (by omega))) rfl (fun _ => rfl)) ((gx_o (by decide)).trans (e7)) ((gx_o (by decide)).trans (e28)) (by omega) (lp_w (w46) (fun _ => rfl)) ((gx_o (by decide)).trans (w48)) ((gx_o (by decide)).trans (w49))
set_option maxRecDepth 100000 in
set_option maxHeartbeats 4000000 in
theorem opl_d {f n e t sv : Nat} {a : Int32} {T : Nat → Nat} {h : xh_H} (s4 : sv < 4096) (t12 : t ≤ 12) (he : e ≤ n) (hq : a_rq a_tb h) (hc : rtp h T n) (e7 : xg 0 h.2.1 39 7 = nI e) (e28 : xg 0 h.2.1 39 28 = nI t) : xq f xi_X10_openList xmi_X10_openList 0 [(0, .ref 39), (1, .int a)] [] h (fun v h' => fx (oD t) gL h h' ∧ xg 0 h'.2.1 46 (4096 * t + sv) = 0 ∧ xg 0 h'.2.1 48 t = 1 ∧ xg 0 h'.2.1 49 t = a) := by
  refine xq_n 32 [0, 2] [(0, .ref 39), (2, .int (Int32.ofInt 0))] [] (xh_ui (xh_ui (xh_ui h 47 ((xg 0 h.2.1 39 28).toNatClampNeg) (Int32.ofInt 2)) 49 ((xg 0 (xh_ui h 47 ((xg 0 h.2.1 39 28).toNatClampNeg) (Int32.ofInt 2)).2.1 39 28).toNatClampNeg) a) 48 ((xg 0 (xh_ui (xh_ui h 47 ((xg 0 h.2.1 39 28).toNatClampNeg) (Int32.ofInt 2)) 49 ((xg 0 (xh_ui h 47 ((xg 0 h.2.1 39 28).toNatClampNeg) (Int32.ofInt 2)).2.1 39 28).toNatClampNeg) a).2.1 39 28).toNatClampNeg) (Int32.ofInt 1)) [] 22 hq rfl trivial (fun _ => ?_)
  rw [show (xg 0 (xh_ui (xh_ui h 47 ((xg 0 h.2.1 39 28).toNatClampNeg) (Int32.ofInt 2)) 49 ((xg 0 (xh_ui h 47 ((xg 0 h.2.1 39 28).toNatClampNeg) (Int32.ofInt 2)).2.1 39 28).toNatClampNeg) a).2.1 39 28) = (nI t) from (gx_o (by decide)).trans ((gx_o (by decide)).trans (e28))]
  rw [show (xg 0 (xh_ui h 47 ((xg 0 h.2.1 39 28).toNatClampNeg) (Int32.ofInt 2)).2.1 39 28) = (nI t) from (gx_o (by decide)).trans (e28)]
  rw [show (xg 0 h.2.1 39 28) = (nI t) from e28]
  rw [show ((nI t).toNatClampNeg) = t from nI_clamp (by omega)]
  have hq : a_rq a_tb (xh_ui (xh_ui (xh_ui h 47 t (Int32.ofInt 2)) 49 t a) 48 t (Int32.ofInt 1)) := a_rq_ui (a_rq_ui (a_rq_ui hq))
  exact opl_dl he t12 s4 f 0 _ hq (fx_ui (fx_ui (fx_ui (fx_0) oDe7) oDe9) oDe8) (rtp_f (S := oD t) (L := gL) hc (fx_ui (fx_ui (fx_ui (fx_0) oDe7) oDe9) oDe8) rfl (fun _ => rfl)) ((gx_o (by decide)).trans ((gx_o (by decide)).trans ((gx_o (by decide)).trans (e7)))) ((gx_o (by decide)).trans ((gx_o (by decide)).trans ((gx_o (by decide)).trans (e28)))) (by omega) (lp_0 _ rfl) (gx_s) ((gx_o (by decide)).trans (gx_s))
set_option maxRecDepth 100000 in
set_option maxHeartbeats 4000000 in
theorem bls_d {f p o a : Nat} {fs : List Nat} {h : xh_H} {sv : Nat} {ds : List vF} {one : Bool} (s4 : sv < 4096) (dt : dfr h sv fs ds) (d45 : xg 0 h.2.1 45 sv = bl one) (rr0 : rr h T n mem nn NW p o fs) (hq : a_rq a_tb h) : xq f xi_X10_beginList xmi_X10_beginList 0 [(0, .ref 39), (1, .int (nI a))] [] h (fun v h' => dQ h' sv (bls T n p o fs) (vL (nI a) :: ds, one)) := by
  have hT : ∀ k, k < n → T k < 256 := fun k hk' => (rr0.1.2.2 k hk').1
  have rt := rr0.2.1
  have rb := (rkk_k (T := T) (n := n) (p := p)).1
  have kb := tkk_lt (T := T) (n := n) (p := p) hT
  have o120 := rr0.2.2.2.2.2.2.1
  have f1 := rr0.2.2.2.2.2.2.2.2.1
  have n16 := rr0.2.2.2.2.1.2.1
  have f13 := rr0.2.2.2.2.2.2.2.2.2.1
  have n6 := rr0.1.2.1
  refine xq_n 1 [0, 1] [(0, .ref 39), (1, .int (nI a))] [.ref 39] h [] 3 hq rfl trivial (fun hq => ?_)
  refine xq_run hq rfl rfl (rw4_q hT (rt) hq) ?_
  rintro v1 h_v1 ⟨rfl, rfl⟩
  cases b2 : (ky T n p 4) with
  | true =>
    have db2 := of_decide_eq_true b2
    refine xq_n 14 [0, 1] [(0, .ref 39), (1, .int (nI a))] [.ref 39] h [true] 4 hq rfl ⟨rfl, trivial⟩ (fun hq => ?_)
    have nz3 : tkk T n p ≠ 0 := by omega
    have le3 := tke_le nz3
    refine xq_run hq rfl rfl (go_q hq (rr0.1) (rt.2.2.2.2.2 (by omega)) le3) ?_
    rintro v3 h3 ⟨rfl, g3, t3⟩
    have hq := fx_q g3 hq
    have rb3 := (rkk_k (T := T) (n := n) (p := tke T n p)).1
    have kb3 := tkk_lt (T := T) (n := n) (p := tke T n p) hT
    refine xq_n 20 [0, 1] [(0, .ref 39), (1, .int (nI a))] [.int 91, .ref 39] h3 [] 4 hq rfl trivial (fun hq => ?_)
    refine xq_run hq rfl rfl (rsg_q (c := 91) (by decide) (by decide) hT (t3) hq) ?_
    rintro v4 h_v4 ⟨rfl, rfl⟩
    cases b5 : (decide (tkk T n (tke T n p) = 91)) with
    | true =>
      have db5 := of_decide_eq_true b5
      cases c6 : xe_c .ne (nI (fs.length - 1)) 12 with
      | true =>
        have z6 : (fs.length - 1) ≠ 12 := nq_net (a := (fs.length - 1)) (b := 12) (by omega) (by omega) c6
        refine xq_n 59 [0, 1] [(0, .ref 39), (1, .int (nI a))] [.int (nI a), .ref 39] (xh_ui h3 39 28 ((xg 0 h3.2.1 39 28) + (Int32.ofInt 1))) [true, true] 15 hq rfl ⟨rfl, (show xe_c .ne (xg 0 h3.2.1 39 28) 12 = true by rw [show (xg 0 h3.2.1 39 28) = (nI (fs.length - 1)) from (fx_i g3 rfl).trans (rr0.2.2.2.2.2.2.2.1)]; exact c6), trivial⟩ (fun _ => ?_)
        rw [show (xg 0 h3.2.1 39 28) = (nI (fs.length - 1)) from (fx_i g3 rfl).trans (rr0.2.2.2.2.2.2.2.1)]
        rw [show ((nI (fs.length - 1)) + (Int32.ofInt 1)) = nI (fs.length - 1 + 1) from nI_1 _]
        rw [show (nI (fs.length - 1 + 1)) = nI fs.length from (by rw [show fs.length - 1 + 1 = fs.length by omega])]
        have hq : a_rq a_tb (xh_ui h3 39 28 (nI fs.length)) := a_rq_ui hq
        have nz7 : tkk T n (tke T n p) ≠ 0 := by omega
        refine xq_run hq rfl rfl (xq_and (opl_q (t := fs.length) (by omega) (tke_le nz7) hq (rtp_f (S := rS) (L := gL) rr0.1 (fx_ui (fx_t (fx_0) (fx_w g3 (fun _ _ => gS_r) (fun _ _ z => z))) rfl) rfl (fun _ => rfl)) ((gx_k (by decide)).trans (t3.2.2.2.2.2 (by omega))) (gx_s)) (opl_d (t := fs.length) s4 (by omega) (tke_le nz7) hq (rtp_f (S := rS) (L := gL) rr0.1 (fx_ui (fx_t (fx_0) (fx_w g3 (fun _ _ => gS_r) (fun _ _ z => z))) rfl) rfl (fun _ => rfl)) ((gx_k (by decide)).trans (t3.2.2.2.2.2 (by omega))) (gx_s))) ?_
        rintro v7 h7 ⟨⟨rfl, g7, t7, y7, a7⟩, dg7, k17, k27, k37⟩
        have hq := fx_q g7 hq
        refine xq_n 63 [] [] [.int (Int32.ofInt 1)] h7 [] 3 hq rfl trivial (fun hq => ?_)
        have er : bls T n p o fs = .inl (1, tke T n (tke T n p), o, 2 :: fs) := by
          unfold bls
          repeat (first | rw [if_pos (by omega)] | rw [if_neg (by omega)] | rw [if_pos b2] | rw [if_neg (by rw [b2]; decide)] | rw [if_pos b5] | rw [if_neg (by rw [b5]; decide)])
          try rfl
        exact xq_ret rfl rfl rfl (dQ_l er ⟨fun _ => ⟨k17, k27, k37⟩, fun z => absurd rfl z, dfr_op s4 (dfr_39 s4 (dfr_go s4 (dt) g3)) dg7⟩ ((fx_i dg7 rfl).trans ((gx_o (by decide)).trans ((fx_i g3 rfl).trans (d45)))))
      | false =>
        have z6 : (fs.length - 1) = 12 := nq_nef (a := (fs.length - 1)) (b := 12) (by omega) (by omega) c6
        refine xq_n 43 [0, 1] [(0, .ref 39), (1, .int (nI a))] [.int (Int32.ofInt 4), .ref 39] h3 [true, false] 9 hq rfl ⟨rfl, (show xe_c .ne (xg 0 h3.2.1 39 28) 12 = false by rw [show (xg 0 h3.2.1 39 28) = (nI (fs.length - 1)) from (fx_i g3 rfl).trans (rr0.2.2.2.2.2.2.2.1)]; exact c6), trivial⟩ (fun hq => ?_)
        refine xq_run hq rfl rfl (bad_q (k := 4) hT (t3) hq) ?_
        rintro v8 h8 ⟨rfl, g8, f8, l8⟩
        have hq := fx_q g8 hq
        rw [if_neg (show ¬ rkk T n (tke T n p) = 1 from fun e => by have e1 := rk1.mp e; omega)] at f8
        have er : bls T n p o fs = .inr (4, tks T n (tke T n p)) := by
          unfold bls
          repeat (first | rw [if_pos (by omega)] | rw [if_neg (by omega)] | rw [if_pos b2] | rw [if_neg (by rw [b2]; decide)] | rw [if_pos b5] | rw [if_neg (by rw [b5]; decide)])
          try rfl
        exact xq_ret rfl rfl rfl (dQ_r er)
    | false =>
      have db5 := of_decide_eq_false b5
      refine xq_n 28 [0, 1] [(0, .ref 39), (1, .int (nI a))] [.int (Int32.ofInt 1), .ref 39] h3 [false] 5 hq rfl ⟨rfl, trivial⟩ (fun hq => ?_)
      refine xq_run hq rfl rfl (bad_q (k := 1) hT (t3) hq) ?_
      rintro v9 h9 ⟨rfl, g9, f9, l9⟩
      have hq := fx_q g9 hq
      rw [show (if rkk T n (tke T n p) = 1 then 1 else 1) = 1 by split <;> rfl] at f9
      have er : bls T n p o fs = .inr (1, tks T n (tke T n p)) := by
        unfold bls
        repeat (first | rw [if_pos (by omega)] | rw [if_neg (by omega)] | rw [if_pos b2] | rw [if_neg (by rw [b2]; decide)] | rw [if_pos b5] | rw [if_neg (by rw [b5]; decide)])
        try rfl
      exact xq_ret rfl rfl rfl (dQ_r er)
  | false =>
    have db2 := of_decide_eq_false b2
    refine xq_n 9 [0, 1] [(0, .ref 39), (1, .int (nI a))] [.int (Int32.ofInt 1), .ref 39] h [false] 5 hq rfl ⟨rfl, trivial⟩ (fun hq => ?_)
    refine xq_run hq rfl rfl (bad_q (k := 1) hT (rt) hq) ?_
    rintro v10 h10 ⟨rfl, g10, f10, l10⟩
    have hq := fx_q g10 hq
    rw [show (if rkk T n p = 1 then 1 else 1) = 1 by split <;> rfl] at f10
    have er : bls T n p o fs = .inr (1, tks T n p) := by
      unfold bls
      repeat (first | rw [if_pos (by omega)] | rw [if_neg (by omega)] | rw [if_pos b2] | rw [if_neg (by rw [b2]; decide)])
      try rfl
    exact xq_ret rfl rfl rfl (dQ_r er)
set_option maxRecDepth 100000 in
set_option maxHeartbeats 4000000 in
theorem np_lp {nn w : Nat} {NW : Nat → Nat} {h : xh_H} (nm : nms h nn NW) (e15 : xg 0 h.2.2.1 39 15 = Int64.ofNat w) (hw : w < 282429536481) : ∀ (f k : Nat), a_rq a_tb h → k ≤ nn → (∀ j, j < k → NW j ≠ w) → xq f xi_X10_nameAtHand xmi_X10_nameAtHand 2 [(0, .ref 39), (1, .int (nI k))] [] h (nh_P h nn NW w) := by
  have n16 := nm.2.1
  intro f
  induction f with
  | zero => intros; exact xq_0
  | succ f ih =>
    intro k hq hk' ha
    cases c1 : xe_c .ge (nI k) (nI nn) with
    | true =>
      have z1 : k ≥ nn := nq_get (a := k) (b := nn) (by omega) (by omega) c1
      refine xq_m 33 [] [] [.int (Int32.ofInt (-1))] h [true] 7 hq rfl ⟨(show xe_c .ge (nI k) (xg 0 h.2.1 39 26) = true by rw [show (xg 0 h.2.1 39 26) = (nI nn) from nm.1]; exact c1), trivial⟩ (fun hq => ?_)
      exact xq_ret rfl rfl rfl ⟨rfl, Or.inl ⟨rfl, decide_eq_false (fun ⟨j, y1, y2⟩ => ha j (by omega) y2)⟩⟩
    | false =>
      have z1 : k < nn := nq_gef (a := k) (b := nn) (by omega) (by omega) c1
      have nwk := (nm.2.2 k (by omega)).1
      cases c2 : xe_c .ne (lg_cmp (Int64.ofNat (NW k)) (Int64.ofNat w)) 0 with
      | true =>
        have z2 : (NW k) ≠ w := fun y => xne_i c2 (lg0.mpr (by rw [y]))
        refine xq_m 2 [0, 1] [(0, .ref 39), (1, .int ((nI k) + Int32.ofInt 1))] [] h [false, true] 16 hq rfl ⟨(show xe_c .ge (nI k) (xg 0 h.2.1 39 26) = false by rw [show (xg 0 h.2.1 39 26) = (nI nn) from nm.1]; exact c1), (show xe_c .ne (lg_cmp (xg 0 h.2.2.1 50 ((nI k).toNatClampNeg)) (xg 0 h.2.2.1 39 15)) 0 = true by rw [show (xg 0 h.2.2.1 50 ((nI k).toNatClampNeg)) = (Int64.ofNat (NW k)) from (by rw [show ((nI k).toNatClampNeg) = k from nI_clamp (by omega)]; exact (nm.2.2 _ (by omega)).2), show (xg 0 h.2.2.1 39 15) = (Int64.ofNat w) from e15]; exact c2), trivial⟩ (fun hq => ?_)
        rw [show ((nI k) + Int32.ofInt 1) = nI (k + 1) from nI_1 _]
        exact ih (k + 1) hq (by omega) (fun j hj => by
          by_cases ek : j = k
          · rw [ek]; exact z2
          · exact ha j (by omega))
      | false =>
        have z2 : (NW k) = w := i64_inj (by omega) (by omega) (lg0.mp (xne_j c2))
        refine xq_m 25 [] [] [.int (nI k)] h [false, false] 15 hq rfl ⟨(show xe_c .ge (nI k) (xg 0 h.2.1 39 26) = false by rw [show (xg 0 h.2.1 39 26) = (nI nn) from nm.1]; exact c1), (show xe_c .ne (lg_cmp (xg 0 h.2.2.1 50 ((nI k).toNatClampNeg)) (xg 0 h.2.2.1 39 15)) 0 = false by rw [show (xg 0 h.2.2.1 50 ((nI k).toNatClampNeg)) = (Int64.ofNat (NW k)) from (by rw [show ((nI k).toNatClampNeg) = k from nI_clamp (by omega)]; exact (nm.2.2 _ (by omega)).2), show (xg 0 h.2.2.1 39 15) = (Int64.ofNat w) from e15]; exact c2), trivial⟩ (fun hq => ?_)
        have en := nmi_1 (NW := NW) (nn := nn) (i := k) (w := w) (by omega) ha z2
        exact xq_ret rfl rfl rfl ⟨rfl, Or.inr ⟨by omega, by rw [en], decide_eq_true ⟨k, by omega, z2⟩⟩⟩
set_option maxRecDepth 100000 in
set_option maxHeartbeats 4000000 in
theorem np_q {f nn w : Nat} {NW : Nat → Nat} {h : xh_H} (nm : nms h nn NW) (e15 : xg 0 h.2.2.1 39 15 = Int64.ofNat w) (hw : w < 282429536481) (hq : a_rq a_tb h) : xq f xi_X10_nameAtHand xmi_X10_nameAtHand 0 [(0, .ref 39)] [] h (nh_P h nn NW w) := by
  refine xq_n 2 [0, 1] [(0, .ref 39), (1, .int (Int32.ofInt 0))] [] h [] 4 hq rfl trivial (fun hq => ?_)
  exact np_lp nm e15 hw f 0 hq (Nat.zero_le _) (fun j hj => absurd hj (Nat.not_lt_zero j))
set_option maxRecDepth 100000 in
set_option maxHeartbeats 4000000 in
theorem bom_dl {p o sv m : Nat} {fs : List Nat} {ds : List vF} {y1 : Bool} {z45 x2 x3 : Int32} {hb : xh_H} (s4 : sv < 4096) (x2e : x2 = nI m) (m11 : m < 32) : ∀ (f i : Nat) (h : xh_H), fx (fun c _ => Nat.beq c 45) fN hb h → rr h T n mem nn NW p o fs → tkk T n p ≠ 0 → i ≤ 4096 → dfr h sv fs ds → xg 0 h.2.1 45 sv = (if sv < i then bl (sv.testBit m) else z45) → a_rq a_tb h → xq f xi_X10_beginOne xmi_X10_beginOne 235 [(0, .ref 39), (1, .int (Int32.ofInt 1)), (2, .int x2), (3, .int x3), (4, .int (nI i))] [] h (fun v h' => dfr h' sv fs ds ∧ xg 0 h'.2.1 45 sv = bl (sv.testBit m)) := by
  intro f
  induction f with
  | zero => intros; exact xq_0
  | succ f ih =>
    intro i h ge rr0 nz i6 dt w45 hq
    have hT : ∀ k, k < n → T k < 256 := fun k hk' => (rr0.1.2.2 k hk').1
    have rt := rr0.2.1
    have rb := (rkk_k (T := T) (n := n) (p := p)).1
    have kb := tkk_lt (T := T) (n := n) (p := p) hT
    have o120 := rr0.2.2.2.2.2.2.1
    have f1 := rr0.2.2.2.2.2.2.2.2.1
    have n16 := rr0.2.2.2.2.1.2.1
    have f13 := rr0.2.2.2.2.2.2.2.2.2.1
    have n6 := rr0.1.2.1
    cases c1 : xe_c .ge (nI i) 4096 with
    | true =>
      have z1 : i ≥ 4096 := nq_get (a := i) (b := 4096) (by omega) (by omega) c1
      refine xq_m 292 [0, 1, 2, 3, 4] [(0, .ref 39), (1, .int (Int32.ofInt 1)), (2, .int x2), (3, .int x3), (4, .int (nI i))] [.ref 39] h [true] 6 hq rfl ⟨c1, trivial⟩ (fun hq => ?_)
      have nz2 : tkk T n p ≠ 0 := by omega
      have le2 := tke_le nz2
      refine xq_run hq rfl rfl (go_q hq (rr0.1) (rt.2.2.2.2.2 (by omega)) le2) ?_
      rintro v2 h2 ⟨rfl, g2, t2⟩
      have hq := fx_q g2 hq
      have rb2 := (rkk_k (T := T) (n := n) (p := tke T n p)).1
      have kb2 := tkk_lt (T := T) (n := n) (p := tke T n p) hT
      refine xq_n 301 [] [] [.int (Int32.ofInt 1)] (xh_ui h2 39 29 (Int32.ofInt 0)) [] 6 hq rfl trivial (fun _ => ?_)
      have hq : a_rq a_tb (xh_ui h2 39 29 (Int32.ofInt 0)) := a_rq_ui hq
      exact xq_ret rfl rfl rfl ⟨dfr_39 s4 (dfr_go s4 (dt) g2), (gx_o (by decide)).trans ((fx_i g2 rfl).trans (lp_1 w45 (by omega)))⟩
    | false =>
      have z1 : i < 4096 := nq_gef (a := i) (b := 4096) (by omega) (by omega) c1
      cases c3 : xe_c .ne (((nI i) >>> (x2 &&& 31)) &&& (Int32.ofInt 1)) (Int32.ofInt 1) with
      | true =>
        refine xq_m 235 [0, 1, 2, 3, 4] [(0, .ref 39), (1, .int (Int32.ofInt 1)), (2, .int x2), (3, .int x3), (4, .int ((nI i) + Int32.ofInt 1))] [] (xh_ui h 45 ((nI i).toNatClampNeg) (vp_nar .boolean (Int32.ofInt 0))) [false, false, true] 22 hq rfl ⟨c1, (by decide), c3, trivial⟩ (fun _ => ?_)
        rw [show (vp_nar .boolean (Int32.ofInt 0)) = Int32.ofInt 0 from rfl]
        rw [show ((nI i).toNatClampNeg) = i from nI_clamp (by omega)]
        rw [show ((nI i) + Int32.ofInt 1) = nI (i + 1) from nI_1 _]
        have hq : a_rq a_tb (xh_ui h 45 i (Int32.ofInt 0)) := a_rq_ui hq
        exact ih (i + 1) _ (fx_ui ge rfl) ⟨rtp_f (S := rS) (L := gL) rr0.1 (fx_ui (fx_0) rfl) rfl (fun _ => rfl), rtk_ui (rt) rfl, (gx_o (by decide)).trans (rr0.2.2.1), rr0.2.2.2.1, nms_f (S := rS) (L := gL) rr0.2.2.2.2.1 (fx_ui (fx_0) rfl) rfl (fun _ => rfl), (gx_o (by decide)).trans (rr0.2.2.2.2.2.1), rr0.2.2.2.2.2.2.1, (gx_o (by decide)).trans (rr0.2.2.2.2.2.2.2.1), rr0.2.2.2.2.2.2.2.2.1, rr0.2.2.2.2.2.2.2.2.2.1, frs_c (fun k hk' => gx_o (by decide)) rr0.2.2.2.2.2.2.2.2.2.2.1, (gx_o (by decide)).trans (rr0.2.2.2.2.2.2.2.2.2.2.2)⟩ nz (by omega) (dfr_45 s4 (dt)) (lp_w0 w45 (fun e => by rw [← e]; have := c3; rw [x2e, nI_b0 (by omega) m11] at this; cases hb1 : i.testBit m <;> rw [hb1] at this <;> first | rfl | exact absurd this (by decide))) hq
      | false =>
        refine xq_m 235 [0, 1, 2, 3, 4] [(0, .ref 39), (1, .int (Int32.ofInt 1)), (2, .int x2), (3, .int x3), (4, .int ((nI i) + Int32.ofInt 1))] [] (xh_ui h 45 ((nI i).toNatClampNeg) (vp_nar .boolean (Int32.ofInt 1))) [false, false, false] 22 hq rfl ⟨c1, (by decide), c3, trivial⟩ (fun _ => ?_)
        rw [show (vp_nar .boolean (Int32.ofInt 1)) = Int32.ofInt 1 from rfl]
        rw [show ((nI i).toNatClampNeg) = i from nI_clamp (by omega)]
        rw [show ((nI i) + Int32.ofInt 1) = nI (i + 1) from nI_1 _]
        have hq : a_rq a_tb (xh_ui h 45 i (Int32.ofInt 1)) := a_rq_ui hq
        exact ih (i + 1) _ (fx_ui ge rfl) ⟨rtp_f (S := rS) (L := gL) rr0.1 (fx_ui (fx_0) rfl) rfl (fun _ => rfl), rtk_ui (rt) rfl, (gx_o (by decide)).trans (rr0.2.2.1), rr0.2.2.2.1, nms_f (S := rS) (L := gL) rr0.2.2.2.2.1 (fx_ui (fx_0) rfl) rfl (fun _ => rfl), (gx_o (by decide)).trans (rr0.2.2.2.2.2.1), rr0.2.2.2.2.2.2.1, (gx_o (by decide)).trans (rr0.2.2.2.2.2.2.2.1), rr0.2.2.2.2.2.2.2.2.1, rr0.2.2.2.2.2.2.2.2.2.1, frs_c (fun k hk' => gx_o (by decide)) rr0.2.2.2.2.2.2.2.2.2.2.1, (gx_o (by decide)).trans (rr0.2.2.2.2.2.2.2.2.2.2.2)⟩ nz (by omega) (dfr_45 s4 (dt)) (lp_w0 w45 (fun e => by rw [← e]; have := c3; rw [x2e, nI_b0 (by omega) m11] at this; cases hb1 : i.testBit m <;> rw [hb1] at this <;> first | rfl | exact absurd this (by decide))) hq
set_option maxRecDepth 100000 in
set_option maxHeartbeats 4000000 in
theorem bon_dl {p o sv m : Nat} {fs : List Nat} {ds : List vF} {y1 : Bool} {z45 x2 x3 : Int32} {hb : xh_H} (s4 : sv < 4096) (x3e : x3 = nI m) (m16 : m < 16) (dn : xg 0 hb.2.1 43 (4096 * m + sv) = bl y1) : ∀ (f i : Nat) (h : xh_H), fx (fun c _ => Nat.beq c 45) fN hb h → rr h T n mem nn NW p o fs → tkk T n p ≠ 0 → i ≤ 4096 → dfr h sv fs ds → xg 0 h.2.1 45 sv = (if sv < i then bl (y1) else z45) → a_rq a_tb h → xq f xi_X10_beginOne xmi_X10_beginOne 235 [(0, .ref 39), (1, .int (Int32.ofInt 0)), (2, .int x2), (3, .int x3), (4, .int (nI i))] [] h (fun v h' => dfr h' sv fs ds ∧ xg 0 h'.2.1 45 sv = bl (y1)) := by
  intro f
  induction f with
  | zero => intros; exact xq_0
  | succ f ih =>
    intro i h ge rr0 nz i6 dt w45 hq
    have hT : ∀ k, k < n → T k < 256 := fun k hk' => (rr0.1.2.2 k hk').1
    have rt := rr0.2.1
    have rb := (rkk_k (T := T) (n := n) (p := p)).1
    have kb := tkk_lt (T := T) (n := n) (p := p) hT
    have o120 := rr0.2.2.2.2.2.2.1
    have f1 := rr0.2.2.2.2.2.2.2.2.1
    have n16 := rr0.2.2.2.2.1.2.1
    have f13 := rr0.2.2.2.2.2.2.2.2.2.1
    have n6 := rr0.1.2.1
    cases c1 : xe_c .ge (nI i) 4096 with
    | true =>
      have z1 : i ≥ 4096 := nq_get (a := i) (b := 4096) (by omega) (by omega) c1
      refine xq_m 292 [0, 1, 2, 3, 4] [(0, .ref 39), (1, .int (Int32.ofInt 0)), (2, .int x2), (3, .int x3), (4, .int (nI i))] [.ref 39] h [true] 6 hq rfl ⟨c1, trivial⟩ (fun hq => ?_)
      have nz2 : tkk T n p ≠ 0 := by omega
      have le2 := tke_le nz2
      refine xq_run hq rfl rfl (go_q hq (rr0.1) (rt.2.2.2.2.2 (by omega)) le2) ?_
      rintro v2 h2 ⟨rfl, g2, t2⟩
      have hq := fx_q g2 hq
      have rb2 := (rkk_k (T := T) (n := n) (p := tke T n p)).1
      have kb2 := tkk_lt (T := T) (n := n) (p := tke T n p) hT
      refine xq_n 301 [] [] [.int (Int32.ofInt 1)] (xh_ui h2 39 29 (Int32.ofInt 0)) [] 6 hq rfl trivial (fun _ => ?_)
      have hq : a_rq a_tb (xh_ui h2 39 29 (Int32.ofInt 0)) := a_rq_ui hq
      exact xq_ret rfl rfl rfl ⟨dfr_39 s4 (dfr_go s4 (dt) g2), (gx_o (by decide)).trans ((fx_i g2 rfl).trans (lp_1 w45 (by omega)))⟩
    | false =>
      have z1 : i < 4096 := nq_gef (a := i) (b := 4096) (by omega) (by omega) c1
      refine xq_m 235 [0, 1, 2, 3, 4] [(0, .ref 39), (1, .int (Int32.ofInt 0)), (2, .int x2), (3, .int x3), (4, .int ((nI i) + Int32.ofInt 1))] [] (xh_ui h 45 ((nI i).toNatClampNeg) (vp_nar .boolean (xg 0 h.2.1 43 (((4096 * x3) + (nI i)).toNatClampNeg)))) [false, true] 21 hq rfl ⟨c1, (by decide), trivial⟩ (fun _ => ?_)
      rw [show (xg 0 h.2.1 43 (((4096 * x3) + (nI i)).toNatClampNeg)) = xg 0 h.2.1 43 (4096 * m + i) from (by rw [show ((4096 * x3) + (nI i)) = nI (4096 * m + i) from (by rw [x3e]; exact idx_a), show ((nI (4096 * m + i)).toNatClampNeg) = (4096 * m + i) from nI_clamp (by omega)])]
      rw [show ((nI i).toNatClampNeg) = i from nI_clamp (by omega)]
      rw [show ((nI i) + Int32.ofInt 1) = nI (i + 1) from nI_1 _]
      have hq : a_rq a_tb (xh_ui h 45 i (vp_nar .boolean (xg 0 h.2.1 43 (4096 * m + i)))) := a_rq_ui hq
      exact ih (i + 1) _ (fx_ui ge rfl) ⟨rtp_f (S := rS) (L := gL) rr0.1 (fx_ui (fx_0) rfl) rfl (fun _ => rfl), rtk_ui (rt) rfl, (gx_o (by decide)).trans (rr0.2.2.1), rr0.2.2.2.1, nms_f (S := rS) (L := gL) rr0.2.2.2.2.1 (fx_ui (fx_0) rfl) rfl (fun _ => rfl), (gx_o (by decide)).trans (rr0.2.2.2.2.2.1), rr0.2.2.2.2.2.2.1, (gx_o (by decide)).trans (rr0.2.2.2.2.2.2.2.1), rr0.2.2.2.2.2.2.2.2.1, rr0.2.2.2.2.2.2.2.2.2.1, frs_c (fun k hk' => gx_o (by decide)) rr0.2.2.2.2.2.2.2.2.2.2.1, (gx_o (by decide)).trans (rr0.2.2.2.2.2.2.2.2.2.2.2)⟩ nz (by omega) (dfr_45 s4 (dt)) (lp_w0 w45 (fun e => by rw [e, (fx_i ge rfl).trans dn]; exact bl_n)) hq
set_option maxRecDepth 100000 in
set_option maxHeartbeats 4000000 in
theorem bo_d {f p o : Nat} {fs : List Nat} {h : xh_H} {sv : Nat} {ds : List vF} {one : Bool} (s4 : sv < 4096) (dt : dfr h sv fs ds) (d45 : xg 0 h.2.1 45 sv = bl one) {NV : Nat → Bool} (dn : dnm h sv nn NV) (rr0 : rr h T n mem nn NW p o fs) (hq : a_rq a_tb h) : xq f xi_X10_beginOne xmi_X10_beginOne 0 [(0, .ref 39)] [] h (fun v h' => dQ h' sv (bo T n mem nn NW p o fs) (vbo T n nn NW sv NV p ds one)) := by
  have hT : ∀ k, k < n → T k < 256 := fun k hk' => (rr0.1.2.2 k hk').1
  have rt := rr0.2.1
  have rb := (rkk_k (T := T) (n := n) (p := p)).1
  have kb := tkk_lt (T := T) (n := n) (p := p) hT
  have o120 := rr0.2.2.2.2.2.2.1
  have f1 := rr0.2.2.2.2.2.2.2.2.1
  have n16 := rr0.2.2.2.2.1.2.1
  have f13 := rr0.2.2.2.2.2.2.2.2.2.1
  have n6 := rr0.1.2.1
  have t9 : tkn T n p ≤ 999 := vf_999
  have mm := rr0.2.2.2.1
  cases c1 : xe_c .ne (nI (rkk T n p)) (Int32.ofInt 2) with
  | true =>
    have z1 : (rkk T n p) ≠ 2 := nq_net (a := (rkk T n p)) (b := 2) (by omega) (by omega) c1
    have yc1 := mt (rk2 (T := T) (n := n) (p := p)).mpr z1
    cases c2 : xe_c .eq (nI (rkk T n p)) (Int32.ofInt 3) with
    | true =>
      have z2 : (rkk T n p) = 3 := nq_eqt (a := (rkk T n p)) (b := 3) (by omega) (by omega) c2
      have yc2 := (rk3 (T := T) (n := n) (p := p)).mp z2
      cases c3 : xe_c .ne (nI (tkn T n p)) 0 with
      | true =>
        have z3 : (tkn T n p) ≠ 0 := nq_net (a := (tkn T n p)) (b := 0) (by omega) (by omega) c3
        refine xq_n 102 [0, 1] [(0, .ref 39), (1, .int (Int32.ofInt 0))] [.ref 39] h [true, true, false, true, true] 22 hq rfl ⟨(show xe_c .ne (xg 0 h.2.1 39 9) (Int32.ofInt 2) = true by rw [show (xg 0 h.2.1 39 9) = (nI (rkk T n p)) from rt.2.1]; exact c1), (show xe_c .eq (xg 0 h.2.1 39 9) (Int32.ofInt 3) = true by rw [show (xg 0 h.2.1 39 9) = (nI (rkk T n p)) from rt.2.1]; exact c2), (show xe_c .ne (xg 0 h.2.1 39 9) (Int32.ofInt 3) = false by rw [show (xg 0 h.2.1 39 9) = (nI (rkk T n p)) from rt.2.1, z2]; rfl), (show xe_c .ne (xg 0 h.2.1 39 10) 0 = true by rw [show (xg 0 h.2.1 39 10) = (nI (tkn T n p)) from rt.2.2.2.1 (by omega)]; exact c3), (by decide), trivial⟩ (fun hq => ?_)
        refine xq_run hq rfl rfl (rnm_q hT (rt) hq) ?_
        rintro v4 h_v4 ⟨rfl, rfl⟩
        cases b5 : (nmt T n p) with
        | true =>
          have db5 := of_decide_eq_true b5
          omega
        | false =>
          have db5 := of_decide_eq_false b5
          cases c6 : xe_c .ne (nI o) 120 with
          | true =>
            have z6 : o ≠ 120 := nq_net (a := o) (b := 120) (by omega) (by omega) c6
            refine xq_n 140 [0, 1] [(0, .ref 39), (1, .int (Int32.ofInt 0))] [.int 40, .ref 39] h [true, true] 9 hq rfl ⟨rfl, (show xe_c .ne (xg 0 h.2.1 39 27) 120 = true by rw [show (xg 0 h.2.1 39 27) = (nI o) from rr0.2.2.2.2.2.1]; exact c6), trivial⟩ (fun hq => ?_)
            refine xq_run hq rfl rfl (rsg_q (c := 40) (by decide) (by decide) hT (rt) hq) ?_
            rintro v7 h_v7 ⟨rfl, rfl⟩
            cases b8 : (decide (tkk T n p = 40)) with
            | true =>
              have db8 := of_decide_eq_true b8
              omega
            | false =>
              have db8 := of_decide_eq_false b8
              refine xq_n 185 [0, 1, 2] [(0, .ref 39), (1, .int (Int32.ofInt 0)), (2, .int (xg 0 (xh_ui h 39 27 ((xg 0 h.2.1 39 27) + (Int32.ofInt 1))).2.1 39 10))] [.ref 39] (xh_ui h 39 27 ((xg 0 h.2.1 39 27) + (Int32.ofInt 1))) [true, false] 17 hq rfl ⟨rfl, (show xe_c .ne (xg 0 (xh_ui h 39 27 ((xg 0 h.2.1 39 27) + (Int32.ofInt 1))).2.1 39 9) (Int32.ofInt 3) = false by rw [show (xg 0 (xh_ui h 39 27 ((xg 0 h.2.1 39 27) + (Int32.ofInt 1))).2.1 39 9) = (nI (rkk T n p)) from (gx_k (by decide)).trans (rt.2.1), z2]; rfl), trivial⟩ (fun _ => ?_)
              rw [show (xg 0 (xh_ui h 39 27 ((xg 0 h.2.1 39 27) + (Int32.ofInt 1))).2.1 39 10) = (nI (tkn T n p)) from (gx_k (by decide)).trans (rt.2.2.2.1 (by omega))]
              rw [show (xg 0 h.2.1 39 27) = (nI o) from rr0.2.2.2.2.2.1]
              rw [show ((nI o) + (Int32.ofInt 1)) = nI (o + 1) from nI_1 _]
              have hq : a_rq a_tb (xh_ui h 39 27 (nI (o + 1))) := a_rq_ui hq
              have nz9 : tkk T n p ≠ 0 := by omega
              have le9 := tke_le nz9
              refine xq_run hq rfl rfl (go_q hq (rtp_f (S := rS) (L := gL) rr0.1 (fx_ui (fx_0) rfl) rfl (fun _ => rfl)) ((gx_k (by decide)).trans (rt.2.2.2.2.2 (by omega))) le9) ?_
              rintro v9 h9 ⟨rfl, g9, t9⟩
              have hq := fx_q g9 hq
              have rb9 := (rkk_k (T := T) (n := n) (p := tke T n p)).1
              have kb9 := tkk_lt (T := T) (n := n) (p := tke T n p) hT
              refine xq_n 190 [0, 1, 2] [(0, .ref 39), (1, .int (Int32.ofInt 0)), (2, .int (nI (tkn T n p)))] [.int (nI (tkn T n p)), .ref 39] h9 [] 4 hq rfl trivial (fun hq => ?_)
              have er : bo T n mem nn NW p o fs = bls T n (tke T n p) (o + 1) fs := by
                unfold bo
                repeat (first | rw [if_pos (by omega)] | rw [if_neg (by omega)] | rw [if_pos b5] | rw [if_neg (by rw [b5]; decide)] | rw [if_pos b8] | rw [if_neg (by rw [b8]; decide)] | rw [if_pos (show lone T n p = true from decide_eq_true (by omega))] | rw [if_neg (show ¬ lone T n p = true from fun e => by have := of_decide_eq_true e; omega)])
                try rfl
              have ev : vbo T n nn NW sv NV p ds one = (vL (nI (tkn T n p)) :: ds, one) := by unfold vbo; rw [if_pos (by omega)]
              refine xq_run hq rfl rfl (xq_and (bls_q ⟨rtp_f (S := rS) (L := gL) rr0.1 (fx_t (fx_ui (fx_0) rfl) (fx_w g9 (fun _ _ => gS_r) (fun _ _ z => z))) rfl (fun _ => rfl), t9, (fx_i g9 rfl).trans ((gx_k (by decide)).trans (rr0.2.2.1)), rr0.2.2.2.1, nms_f (S := rS) (L := gL) rr0.2.2.2.2.1 (fx_t (fx_ui (fx_0) rfl) (fx_w g9 (fun _ _ => gS_r) (fun _ _ z => z))) rfl (fun _ => rfl), (fx_i g9 rfl).trans (gx_s), by omega, (fx_i g9 rfl).trans ((gx_k (by decide)).trans (rr0.2.2.2.2.2.2.2.1)), rr0.2.2.2.2.2.2.2.2.1, rr0.2.2.2.2.2.2.2.2.2.1, frs_c (fun k hk' => (fx_i g9 rfl).trans (gx_o (by decide))) rr0.2.2.2.2.2.2.2.2.2.2.1, (fx_i g9 rfl).trans ((gx_k (by decide)).trans (rr0.2.2.2.2.2.2.2.2.2.2.2))⟩ hq) (bls_d (a := (tkn T n p)) s4 (dfr_go s4 (dfr_39 s4 (dt)) g9) ((fx_i g9 rfl).trans ((gx_o (by decide)).trans (d45))) ⟨rtp_f (S := rS) (L := gL) rr0.1 (fx_t (fx_ui (fx_0) rfl) (fx_w g9 (fun _ _ => gS_r) (fun _ _ z => z))) rfl (fun _ => rfl), t9, (fx_i g9 rfl).trans ((gx_k (by decide)).trans (rr0.2.2.1)), rr0.2.2.2.1, nms_f (S := rS) (L := gL) rr0.2.2.2.2.1 (fx_t (fx_ui (fx_0) rfl) (fx_w g9 (fun _ _ => gS_r) (fun _ _ z => z))) rfl (fun _ => rfl), (fx_i g9 rfl).trans (gx_s), by omega, (fx_i g9 rfl).trans ((gx_k (by decide)).trans (rr0.2.2.2.2.2.2.2.1)), rr0.2.2.2.2.2.2.2.2.1, rr0.2.2.2.2.2.2.2.2.2.1, frs_c (fun k hk' => (fx_i g9 rfl).trans (gx_o (by decide))) rr0.2.2.2.2.2.2.2.2.2.2.1, (fx_i g9 rfl).trans ((gx_k (by decide)).trans (rr0.2.2.2.2.2.2.2.2.2.2.2))⟩ hq)) ?_
              rintro v10 h10 ⟨⟨g10, l10, q10⟩, dq10⟩
              have hq := fx_q g10 hq
              rw [er, ev]
              have hv10 : ∃ x, v10 = some (.int x) := by
                cases hr10 : (bls T n (tke T n p) (o + 1) fs) with
                | inl s => obtain ⟨a1, a2, a3, a4⟩ := s; exact ⟨1, (l10 _ _ _ _ hr10).1⟩
                | inr e => obtain ⟨a1, a2⟩ := e; exact ⟨0, (q10 _ _ hr10).1⟩
              obtain ⟨x10, rfl⟩ := hv10
              exact xq_ret rfl rfl rfl dq10
          | false =>
            have z6 : o = 120 := nq_nef (a := o) (b := 120) (by omega) (by omega) c6
            refine xq_n 133 [0, 1] [(0, .ref 39), (1, .int (Int32.ofInt 0))] [.int (Int32.ofInt 4), .ref 39] h [true, false] 9 hq rfl ⟨rfl, (show xe_c .ne (xg 0 h.2.1 39 27) 120 = false by rw [show (xg 0 h.2.1 39 27) = (nI o) from rr0.2.2.2.2.2.1]; exact c6), trivial⟩ (fun hq => ?_)
            refine xq_run hq rfl rfl (bad_q (k := 4) hT (rt) hq) ?_
            rintro v11 h11 ⟨rfl, g11, f11, l11⟩
            have hq := fx_q g11 hq
            rw [if_neg (show ¬ rkk T n p = 1 from fun e => by have e1 := rk1.mp e; omega)] at f11
            have er : bo T n mem nn NW p o fs = .inr (4, tks T n p) := by
              unfold bo
              repeat (first | rw [if_pos (by omega)] | rw [if_neg (by omega)] | rw [if_pos b5] | rw [if_neg (by rw [b5]; decide)] | rw [if_pos (show lone T n p = true from decide_eq_true (by omega))] | rw [if_neg (show ¬ lone T n p = true from fun e => by have := of_decide_eq_true e; omega)])
              try rfl
            exact xq_ret rfl rfl rfl (dQ_r er)
      | false =>
        have z3 : (tkn T n p) = 0 := nq_nef (a := (tkn T n p)) (b := 0) (by omega) (by omega) c3
        refine xq_n 73 [0, 1] [(0, .ref 39), (1, .int (Int32.ofInt 0))] [.int (Int32.ofInt 2), .ref 39] h [true, true, false, false] 21 hq rfl ⟨(show xe_c .ne (xg 0 h.2.1 39 9) (Int32.ofInt 2) = true by rw [show (xg 0 h.2.1 39 9) = (nI (rkk T n p)) from rt.2.1]; exact c1), (show xe_c .eq (xg 0 h.2.1 39 9) (Int32.ofInt 3) = true by rw [show (xg 0 h.2.1 39 9) = (nI (rkk T n p)) from rt.2.1]; exact c2), (show xe_c .ne (xg 0 h.2.1 39 9) (Int32.ofInt 3) = false by rw [show (xg 0 h.2.1 39 9) = (nI (rkk T n p)) from rt.2.1, z2]; rfl), (show xe_c .ne (xg 0 h.2.1 39 10) 0 = false by rw [show (xg 0 h.2.1 39 10) = (nI (tkn T n p)) from rt.2.2.2.1 (by omega)]; exact c3), trivial⟩ (fun hq => ?_)
        refine xq_run hq rfl rfl (bad_q (k := 2) hT (rt) hq) ?_
        rintro v12 h12 ⟨rfl, g12, f12, l12⟩
        have hq := fx_q g12 hq
        rw [if_neg (show ¬ rkk T n p = 1 from fun e => by have e1 := rk1.mp e; omega)] at f12
        have er : bo T n mem nn NW p o fs = .inr (2, tks T n p) := by
          unfold bo
          repeat (first | rw [if_pos (by omega)] | rw [if_neg (by omega)] | rw [if_pos (show lone T n p = true from decide_eq_true (by omega))] | rw [if_neg (show ¬ lone T n p = true from fun e => by have := of_decide_eq_true e; omega)])
          try rfl
        exact xq_ret rfl rfl rfl (dQ_r er)
    | false =>
      have z2 : (rkk T n p) ≠ 3 := nq_eqf (a := (rkk T n p)) (b := 3) (by omega) (by omega) c2
      have yc2 := mt (rk3 (T := T) (n := n) (p := p)).mpr z2
      refine xq_n 33 [0, 1] [(0, .ref 39), (1, .int (Int32.ofInt 0))] [.int 40, .ref 39] h [true, false] 14 hq rfl ⟨(show xe_c .ne (xg 0 h.2.1 39 9) (Int32.ofInt 2) = true by rw [show (xg 0 h.2.1 39 9) = (nI (rkk T n p)) from rt.2.1]; exact c1), (show xe_c .eq (xg 0 h.2.1 39 9) (Int32.ofInt 3) = false by rw [show (xg 0 h.2.1 39 9) = (nI (rkk T n p)) from rt.2.1]; exact c2), trivial⟩ (fun hq => ?_)
      refine xq_run hq rfl rfl (rsg_q (c := 40) (by decide) (by decide) hT (rt) hq) ?_
      rintro v13 h_v13 ⟨rfl, rfl⟩
      cases b14 : (decide (tkk T n p = 40)) with
      | true =>
        have db14 := of_decide_eq_true b14
        refine xq_n 102 [0, 1] [(0, .ref 39), (1, .int (Int32.ofInt 0))] [.ref 39] h [true, true, true] 10 hq rfl ⟨rfl, (show xe_c .ne (xg 0 h.2.1 39 9) (Int32.ofInt 3) = true by rw [show (xg 0 h.2.1 39 9) = (nI (rkk T n p)) from rt.2.1, xc_ne, c2]; rfl), (by decide), trivial⟩ (fun hq => ?_)
        refine xq_run hq rfl rfl (rnm_q hT (rt) hq) ?_
        rintro v15 h_v15 ⟨rfl, rfl⟩
        cases b16 : (nmt T n p) with
        | true =>
          have db16 := of_decide_eq_true b16
          omega
        | false =>
          have db16 := of_decide_eq_false b16
          cases c17 : xe_c .ne (nI o) 120 with
          | true =>
            have z17 : o ≠ 120 := nq_net (a := o) (b := 120) (by omega) (by omega) c17
            refine xq_n 140 [0, 1] [(0, .ref 39), (1, .int (Int32.ofInt 0))] [.int 40, .ref 39] h [true, true] 9 hq rfl ⟨rfl, (show xe_c .ne (xg 0 h.2.1 39 27) 120 = true by rw [show (xg 0 h.2.1 39 27) = (nI o) from rr0.2.2.2.2.2.1]; exact c17), trivial⟩ (fun hq => ?_)
            refine xq_run hq rfl rfl (rsg_q (c := 40) (by decide) (by decide) hT (rt) hq) ?_
            rintro v18 h_v18 ⟨rfl, rfl⟩
            cases c19 : xe_c .ne (nI (fs.length - 1)) 12 with
            | true =>
              have z19 : (fs.length - 1) ≠ 12 := nq_net (a := (fs.length - 1)) (b := 12) (by omega) (by omega) c19
              cases c20 : xe_c .ne (nI (rkk T n p)) (Int32.ofInt 4) with
              | true =>
                have z20 : (rkk T n p) ≠ 4 := nq_net (a := (rkk T n p)) (b := 4) (by omega) (by omega) c20
                have yc20 := mt (rk4 (T := T) (n := n) (p := p)).mpr z20
                omega
              | false =>
                have z20 : (rkk T n p) = 4 := nq_nef (a := (rkk T n p)) (b := 4) (by omega) (by omega) c20
                have yc20 := (rk4 (T := T) (n := n) (p := p)).mp z20
                refine xq_n 214 [0, 1] [(0, .ref 39), (1, .int (Int32.ofInt 0))] [.int (Int32.ofInt 1), .ref 39] (xh_ui (xh_ui h 39 27 ((xg 0 h.2.1 39 27) + (Int32.ofInt 1))) 39 28 ((xg 0 (xh_ui h 39 27 ((xg 0 h.2.1 39 27) + (Int32.ofInt 1))).2.1 39 28) + (Int32.ofInt 1))) [false, true, true, false] 29 hq rfl ⟨(show xe_c .eq (bl (decide (tkk T n p = 40))) 0 = false by rw [b14]; rfl), (show xe_c .ne (xg 0 h.2.1 39 28) 12 = true by rw [show (xg 0 h.2.1 39 28) = (nI (fs.length - 1)) from rr0.2.2.2.2.2.2.2.1]; exact c19), (show xe_c .ne (xg 0 (xh_ui h 39 27 ((xg 0 h.2.1 39 27) + (Int32.ofInt 1))).2.1 39 9) (Int32.ofInt 3) = true by rw [show (xg 0 (xh_ui h 39 27 ((xg 0 h.2.1 39 27) + (Int32.ofInt 1))).2.1 39 9) = (nI (rkk T n p)) from (gx_k (by decide)).trans (rt.2.1), xc_ne, c2]; rfl), (show xe_c .ne (xg 0 (xh_ui h 39 27 ((xg 0 h.2.1 39 27) + (Int32.ofInt 1))).2.1 39 9) (Int32.ofInt 4) = false by rw [show (xg 0 (xh_ui h 39 27 ((xg 0 h.2.1 39 27) + (Int32.ofInt 1))).2.1 39 9) = (nI (rkk T n p)) from (gx_k (by decide)).trans (rt.2.1)]; exact c20), trivial⟩ (fun _ => ?_)
                rw [show (xg 0 (xh_ui h 39 27 ((xg 0 h.2.1 39 27) + (Int32.ofInt 1))).2.1 39 28) = (nI (fs.length - 1)) from (gx_k (by decide)).trans (rr0.2.2.2.2.2.2.2.1)]
                rw [show (xg 0 h.2.1 39 27) = (nI o) from rr0.2.2.2.2.2.1]
                rw [show ((nI o) + (Int32.ofInt 1)) = nI (o + 1) from nI_1 _]
                rw [show ((nI (fs.length - 1)) + (Int32.ofInt 1)) = nI (fs.length - 1 + 1) from nI_1 _]
                rw [show (nI (fs.length - 1 + 1)) = nI fs.length from (by rw [show fs.length - 1 + 1 = fs.length by omega])]
                have hq : a_rq a_tb (xh_ui (xh_ui h 39 27 (nI (o + 1))) 39 28 (nI fs.length)) := a_rq_ui (a_rq_ui hq)
                have nz21 : tkk T n p ≠ 0 := by omega
                refine xq_run hq rfl rfl (xq_and (opr_q (ty := 1) (t := fs.length) (by omega) (tke_le nz21) hq (rtp_f (S := rS) (L := gL) rr0.1 (fx_ui (fx_ui (fx_0) rfl) rfl) rfl (fun _ => rfl)) ((gx_k (by decide)).trans ((gx_k (by decide)).trans (rt.2.2.2.2.2 (by omega)))) (gx_s)) (opr_d (t := fs.length) s4 (by omega) (tke_le nz21) hq (rtp_f (S := rS) (L := gL) rr0.1 (fx_ui (fx_ui (fx_0) rfl) rfl) rfl (fun _ => rfl)) ((gx_k (by decide)).trans ((gx_k (by decide)).trans (rt.2.2.2.2.2 (by omega)))) (gx_s))) ?_
                rintro v21 h21 ⟨⟨rfl, g21, t21, y21, a21⟩, dg21, k121, k221⟩
                have hq := fx_q g21 hq
                refine xq_n 218 [] [] [.int (Int32.ofInt 1)] h21 [] 3 hq rfl trivial (fun hq => ?_)
                have er : bo T n mem nn NW p o fs = .inl (1, tke T n p, (o + 1), 1 :: fs) := by
                  unfold bo
                  repeat (first | rw [if_pos (by omega)] | rw [if_neg (by omega)] | rw [if_pos b14] | rw [if_neg (by rw [b14]; decide)] | rw [if_pos b16] | rw [if_neg (by rw [b16]; decide)] | rw [if_pos (show lone T n p = true from decide_eq_true (by omega))] | rw [if_neg (show ¬ lone T n p = true from fun e => by have := of_decide_eq_true e; omega)])
                  try rfl
                rw [show vbo T n nn NW sv NV p ds one = (vR :: ds, one) from by unfold vbo; rw [if_neg (by omega), if_pos (by omega)]]
                exact xq_ret rfl rfl rfl (dQ_l er ⟨fun z => absurd z (by decide), fun _ => ⟨k121, k221⟩, dfr_op s4 (dfr_39 s4 (dfr_39 s4 (dt))) dg21⟩ ((fx_i dg21 rfl).trans ((gx_o (by decide)).trans ((gx_o (by decide)).trans (d45)))))
            | false =>
              have z19 : (fs.length - 1) = 12 := nq_nef (a := (fs.length - 1)) (b := 12) (by omega) (by omega) c19
              refine xq_n 157 [0, 1] [(0, .ref 39), (1, .int (Int32.ofInt 0))] [.int (Int32.ofInt 4), .ref 39] h [false, false] 9 hq rfl ⟨(show xe_c .eq (bl (decide (tkk T n p = 40))) 0 = false by rw [b14]; rfl), (show xe_c .ne (xg 0 h.2.1 39 28) 12 = false by rw [show (xg 0 h.2.1 39 28) = (nI (fs.length - 1)) from rr0.2.2.2.2.2.2.2.1]; exact c19), trivial⟩ (fun hq => ?_)
              refine xq_run hq rfl rfl (bad_q (k := 4) hT (rt) hq) ?_
              rintro v22 h22 ⟨rfl, g22, f22, l22⟩
              have hq := fx_q g22 hq
              rw [if_neg (show ¬ rkk T n p = 1 from fun e => by have e1 := rk1.mp e; omega)] at f22
              have er : bo T n mem nn NW p o fs = .inr (4, tks T n p) := by
                unfold bo
                repeat (first | rw [if_pos (by omega)] | rw [if_neg (by omega)] | rw [if_pos b14] | rw [if_neg (by rw [b14]; decide)] | rw [if_pos b16] | rw [if_neg (by rw [b16]; decide)] | rw [if_pos (show lone T n p = true from decide_eq_true (by omega))] | rw [if_neg (show ¬ lone T n p = true from fun e => by have := of_decide_eq_true e; omega)])
                try rfl
              exact xq_ret rfl rfl rfl (dQ_r er)
          | false =>
            have z17 : o = 120 := nq_nef (a := o) (b := 120) (by omega) (by omega) c17
            refine xq_n 133 [0, 1] [(0, .ref 39), (1, .int (Int32.ofInt 0))] [.int (Int32.ofInt 4), .ref 39] h [true, false] 9 hq rfl ⟨rfl, (show xe_c .ne (xg 0 h.2.1 39 27) 120 = false by rw [show (xg 0 h.2.1 39 27) = (nI o) from rr0.2.2.2.2.2.1]; exact c17), trivial⟩ (fun hq => ?_)
            refine xq_run hq rfl rfl (bad_q (k := 4) hT (rt) hq) ?_
            rintro v23 h23 ⟨rfl, g23, f23, l23⟩
            have hq := fx_q g23 hq
            rw [if_neg (show ¬ rkk T n p = 1 from fun e => by have e1 := rk1.mp e; omega)] at f23
            have er : bo T n mem nn NW p o fs = .inr (4, tks T n p) := by
              unfold bo
              repeat (first | rw [if_pos (by omega)] | rw [if_neg (by omega)] | rw [if_pos b14] | rw [if_neg (by rw [b14]; decide)] | rw [if_pos b16] | rw [if_neg (by rw [b16]; decide)] | rw [if_pos (show lone T n p = true from decide_eq_true (by omega))] | rw [if_neg (show ¬ lone T n p = true from fun e => by have := of_decide_eq_true e; omega)])
              try rfl
            exact xq_ret rfl rfl rfl (dQ_r er)
      | false =>
        have db14 := of_decide_eq_false b14
        refine xq_n 44 [0, 1] [(0, .ref 39), (1, .int (Int32.ofInt 0))] [.ref 39] h [false, false] 6 hq rfl ⟨rfl, (by decide), trivial⟩ (fun hq => ?_)
        refine xq_run hq rfl rfl (rnm_q hT (rt) hq) ?_
        rintro v24 h_v24 ⟨rfl, rfl⟩
        cases b25 : (nmt T n p) with
        | true =>
          have db25 := of_decide_eq_true b25
          omega
        | false =>
          have db25 := of_decide_eq_false b25
          refine xq_n 52 [0, 1] [(0, .ref 39), (1, .int (Int32.ofInt 0))] [.int (Int32.ofInt 1), .ref 39] h [false] 5 hq rfl ⟨rfl, trivial⟩ (fun hq => ?_)
          refine xq_run hq rfl rfl (bad_q (k := 1) hT (rt) hq) ?_
          rintro v26 h26 ⟨rfl, g26, f26, l26⟩
          have hq := fx_q g26 hq
          rw [show (if rkk T n p = 1 then 1 else 1) = 1 by split <;> rfl] at f26
          have er : bo T n mem nn NW p o fs = .inr (1, tks T n p) := by
            unfold bo
            repeat (first | rw [if_pos (by omega)] | rw [if_neg (by omega)] | rw [if_pos b14] | rw [if_neg (by rw [b14]; decide)] | rw [if_pos b25] | rw [if_neg (by rw [b25]; decide)] | rw [if_pos (show lone T n p = true from decide_eq_true (by omega))] | rw [if_neg (show ¬ lone T n p = true from fun e => by have := of_decide_eq_true e; omega)])
            try rfl
          exact xq_ret rfl rfl rfl (dQ_r er)
  | false =>
    have z1 : (rkk T n p) = 2 := nq_nef (a := (rkk T n p)) (b := 2) (by omega) (by omega) c1
    have yc1 := (rk2 (T := T) (n := n) (p := p)).mp z1
    have wlt := tkw_lt (T := T) (n := n) (p := p) yc1
    have tk2' := (tk2 (T := T) (n := n) (p := p) yc1).2.1
    cases c27 : xe_c .ne (nI (tke T n p - tks T n p)) (Int32.ofInt 1) with
    | true =>
      have z27 : (tke T n p - tks T n p) ≠ 1 := nq_net (a := (tke T n p - tks T n p)) (b := 1) (by omega) (by omega) c27
      refine xq_n 33 [0, 1] [(0, .ref 39), (1, .int (Int32.ofInt 0))] [.int 40, .ref 39] h [false, true, false] 18 hq rfl ⟨(show xe_c .ne (xg 0 h.2.1 39 9) (Int32.ofInt 2) = false by rw [show (xg 0 h.2.1 39 9) = (nI (rkk T n p)) from rt.2.1]; exact c1), (show xe_c .ne (xg 0 h.2.1 39 12) (Int32.ofInt 1) = true by rw [show (xg 0 h.2.1 39 12) = (nI (tke T n p - tks T n p)) from (rt.2.2.1 (by omega)).1]; exact c27), (show xe_c .eq (xg 0 h.2.1 39 9) (Int32.ofInt 3) = false by rw [show (xg 0 h.2.1 39 9) = (nI (rkk T n p)) from rt.2.1, z1]; rfl), trivial⟩ (fun hq => ?_)
      refine xq_run hq rfl rfl (rsg_q (c := 40) (by decide) (by decide) hT (rt) hq) ?_
      rintro v28 h_v28 ⟨rfl, rfl⟩
      cases b29 : (decide (tkk T n p = 40)) with
      | true =>
        have db29 := of_decide_eq_true b29
        omega
      | false =>
        have db29 := of_decide_eq_false b29
        refine xq_n 44 [0, 1] [(0, .ref 39), (1, .int (Int32.ofInt 0))] [.ref 39] h [false, false] 6 hq rfl ⟨rfl, (by decide), trivial⟩ (fun hq => ?_)
        refine xq_run hq rfl rfl (rnm_q hT (rt) hq) ?_
        rintro v30 h_v30 ⟨rfl, rfl⟩
        cases b31 : (nmt T n p) with
        | true =>
          have db31 := of_decide_eq_true b31
          refine xq_n 102 [0, 1] [(0, .ref 39), (1, .int (Int32.ofInt 0))] [.ref 39] h [true, true, true] 10 hq rfl ⟨rfl, (show xe_c .ne (xg 0 h.2.1 39 9) (Int32.ofInt 3) = true by rw [show (xg 0 h.2.1 39 9) = (nI (rkk T n p)) from rt.2.1, z1]; rfl), (by decide), trivial⟩ (fun hq => ?_)
          refine xq_run hq rfl rfl (rnm_q hT (rt) hq) ?_
          rintro v32 h_v32 ⟨rfl, rfl⟩
          refine xq_n 109 [0, 1] [(0, .ref 39), (1, .int (Int32.ofInt 0))] [.ref 39] h [false] 4 hq rfl ⟨(show xe_c .eq (bl (nmt T n p)) 0 = false by rw [b31]; rfl), trivial⟩ (fun hq => ?_)
          refine xq_run hq rfl rfl (np_q (rr0.2.2.2.2.1) ((rt.2.2.1 (by omega)).2) (tkw_lt (by omega)) hq) ?_
          rintro v33 h_33 ⟨rfl, ⟨rfl, hn33⟩ | ⟨kl33, rfl, hn33⟩⟩
          · skip
            refine xq_n 118 [0, 1] [(0, .ref 39), (1, .int (Int32.ofInt 0))] [.int (Int32.ofInt 3), .ref 39] h [false] 6 hq rfl ⟨(by decide), trivial⟩ (fun hq => ?_)
            refine xq_run hq rfl rfl (bad_q (k := 3) hT (rt) hq) ?_
            rintro v34 h34 ⟨rfl, g34, f34, l34⟩
            have hq := fx_q g34 hq
            rw [if_neg (show ¬ rkk T n p = 1 from fun e => by have e1 := rk1.mp e; omega)] at f34
            have er : bo T n mem nn NW p o fs = .inr (3, tks T n p) := by
              unfold bo
              repeat (first | rw [if_pos (by omega)] | rw [if_neg (by omega)] | rw [if_pos b29] | rw [if_neg (by rw [b29]; decide)] | rw [if_pos b31] | rw [if_neg (by rw [b31]; decide)] | rw [if_pos hn33] | rw [if_neg (by rw [hn33]; decide)] | rw [if_pos (show lone T n p = true from decide_eq_true (by omega))] | rw [if_neg (show ¬ lone T n p = true from fun e => by have := of_decide_eq_true e; omega)])
              try rfl
            exact xq_ret rfl rfl rfl (dQ_r er)
          · skip
            cases c35 : xe_c .ne (nI (nmi nn NW (tkw T n p))) (Int32.ofInt (-1)) with
            | true =>
              cases c36 : xe_c .ne (nI o) 120 with
              | true =>
                have z36 : o ≠ 120 := nq_net (a := o) (b := 120) (by omega) (by omega) c36
                refine xq_n 140 [0, 1] [(0, .ref 39), (1, .int (Int32.ofInt 0))] [.int 40, .ref 39] h [true, true] 10 hq rfl ⟨c35, (show xe_c .ne (xg 0 h.2.1 39 27) 120 = true by rw [show (xg 0 h.2.1 39 27) = (nI o) from rr0.2.2.2.2.2.1]; exact c36), trivial⟩ (fun hq => ?_)
                refine xq_run hq rfl rfl (rsg_q (c := 40) (by decide) (by decide) hT (rt) hq) ?_
                rintro v37 h_v37 ⟨rfl, rfl⟩
                refine xq_n 228 [0, 1, 2] [(0, .ref 39), (1, .int (Int32.ofInt 0)), (2, .int (((xg 0 (xh_ui h 39 27 ((xg 0 h.2.1 39 27) + (Int32.ofInt 1))).2.2.1 39 15).toInt32) - (Int32.ofInt 1)))] [.ref 39] (xh_ui h 39 27 ((xg 0 h.2.1 39 27) + (Int32.ofInt 1))) [true, true, true] 24 hq rfl ⟨(show xe_c .eq (bl (decide (tkk T n p = 40))) 0 = true by rw [b29]; rfl), (show xe_c .ne (xg 0 (xh_ui h 39 27 ((xg 0 h.2.1 39 27) + (Int32.ofInt 1))).2.1 39 9) (Int32.ofInt 3) = true by rw [show (xg 0 (xh_ui h 39 27 ((xg 0 h.2.1 39 27) + (Int32.ofInt 1))).2.1 39 9) = (nI (rkk T n p)) from (gx_k (by decide)).trans (rt.2.1), z1]; rfl), (show xe_c .ne (xg 0 (xh_ui h 39 27 ((xg 0 h.2.1 39 27) + (Int32.ofInt 1))).2.1 39 9) (Int32.ofInt 4) = true by rw [show (xg 0 (xh_ui h 39 27 ((xg 0 h.2.1 39 27) + (Int32.ofInt 1))).2.1 39 9) = (nI (rkk T n p)) from (gx_k (by decide)).trans (rt.2.1), z1]; rfl), trivial⟩ (fun _ => ?_)
                rw [show (xg 0 (xh_ui h 39 27 ((xg 0 h.2.1 39 27) + (Int32.ofInt 1))).2.2.1 39 15) = (Int64.ofNat (tkw T n p)) from (rt.2.2.1 (by omega)).2]
                rw [show (xg 0 h.2.1 39 27) = (nI o) from rr0.2.2.2.2.2.1]
                rw [show ((nI o) + (Int32.ofInt 1)) = nI (o + 1) from nI_1 _]
                have hq : a_rq a_tb (xh_ui h 39 27 (nI (o + 1))) := a_rq_ui hq
                refine xq_run hq rfl rfl (np_q (nms_f (S := rS) (L := gL) rr0.2.2.2.2.1 (fx_ui (fx_0) rfl) rfl (fun _ => rfl)) ((rt.2.2.1 (by omega)).2) (tkw_lt (by omega)) hq) ?_
                rintro v38 h_38 ⟨rfl, ⟨rfl, hn38⟩ | ⟨kl38, rfl, hn38⟩⟩
                · rw [hn33] at hn38; cases hn38
                · skip
                  refine xq_n 235 [0, 1, 2, 3, 4] [(0, .ref 39), (1, .int (Int32.ofInt 0)), (2, .int (((Int64.ofNat (tkw T n p)).toInt32) - (Int32.ofInt 1))), (3, .int (nI (nmi nn NW (tkw T n p)))), (4, .int (Int32.ofInt 0))] [] (xh_ui h 39 27 (nI (o + 1))) [] 5 hq rfl trivial (fun hq => ?_)
                  have er : bo T n mem nn NW p o fs = .inl (0, tke T n p, (o + 1), fs) := by
                    unfold bo
                    repeat (first | rw [if_pos (by omega)] | rw [if_neg (by omega)] | rw [if_pos b29] | rw [if_neg (by rw [b29]; decide)] | rw [if_pos b31] | rw [if_neg (by rw [b31]; decide)] | rw [if_pos hn33] | rw [if_neg (by rw [hn33]; decide)] | rw [if_pos hn38] | rw [if_neg (by rw [hn38]; decide)] | rw [if_pos (show lone T n p = true from decide_eq_true (by omega))] | rw [if_neg (show ¬ lone T n p = true from fun e => by have := of_decide_eq_true e; omega)])
                    try rfl
                  have ev : vbo T n nn NW sv NV p ds one = (ds, NV (nmi nn NW (tkw T n p))) := by unfold vbo; rw [if_neg (by omega), if_neg (by omega), if_neg (show ¬ lone T n p = true from fun e => by have := of_decide_eq_true e; omega)]
                  rw [ev]
                  refine xq_mono (bon_dl (hb := xh_ui h 39 27 (nI (o + 1))) s4 rfl (by omega) ((gx_o (by decide)).trans (dn _ kl38)) f 0 _ fx_0 (⟨rtp_f (S := rS) (L := gL) rr0.1 (fx_ui (fx_0) rfl) rfl (fun _ => rfl), rtk_ui (rt) rfl, (gx_k (by decide)).trans (rr0.2.2.1), rr0.2.2.2.1, nms_f (S := rS) (L := gL) rr0.2.2.2.2.1 (fx_ui (fx_0) rfl) rfl (fun _ => rfl), gx_s, by omega, (gx_k (by decide)).trans (rr0.2.2.2.2.2.2.2.1), rr0.2.2.2.2.2.2.2.2.1, rr0.2.2.2.2.2.2.2.2.2.1, frs_c (fun k hk' => gx_o (by decide)) rr0.2.2.2.2.2.2.2.2.2.2.1, (gx_k (by decide)).trans (rr0.2.2.2.2.2.2.2.2.2.2.2)⟩) (by omega) (by omega) (dfr_39 s4 (dt)) (lp_0 _ ((gx_o (by decide)).trans (d45))) hq) (fun v h' e => dQ_l er e.1 e.2)
              | false =>
                have z36 : o = 120 := nq_nef (a := o) (b := 120) (by omega) (by omega) c36
                refine xq_n 133 [0, 1] [(0, .ref 39), (1, .int (Int32.ofInt 0))] [.int (Int32.ofInt 4), .ref 39] h [true, false] 10 hq rfl ⟨c35, (show xe_c .ne (xg 0 h.2.1 39 27) 120 = false by rw [show (xg 0 h.2.1 39 27) = (nI o) from rr0.2.2.2.2.2.1]; exact c36), trivial⟩ (fun hq => ?_)
                refine xq_run hq rfl rfl (bad_q (k := 4) hT (rt) hq) ?_
                rintro v39 h39 ⟨rfl, g39, f39, l39⟩
                have hq := fx_q g39 hq
                rw [if_neg (show ¬ rkk T n p = 1 from fun e => by have e1 := rk1.mp e; omega)] at f39
                have er : bo T n mem nn NW p o fs = .inr (4, tks T n p) := by
                  unfold bo
                  repeat (first | rw [if_pos (by omega)] | rw [if_neg (by omega)] | rw [if_pos b29] | rw [if_neg (by rw [b29]; decide)] | rw [if_pos b31] | rw [if_neg (by rw [b31]; decide)] | rw [if_pos hn33] | rw [if_neg (by rw [hn33]; decide)] | rw [if_pos (show lone T n p = true from decide_eq_true (by omega))] | rw [if_neg (show ¬ lone T n p = true from fun e => by have := of_decide_eq_true e; omega)])
                  try rfl
                exact xq_ret rfl rfl rfl (dQ_r er)
            | false =>
              exact absurd (xne_j c35) (nIm1 (by omega))
        | false =>
          have db31 := of_decide_eq_false b31
          refine xq_n 52 [0, 1] [(0, .ref 39), (1, .int (Int32.ofInt 0))] [.int (Int32.ofInt 1), .ref 39] h [false] 5 hq rfl ⟨rfl, trivial⟩ (fun hq => ?_)
          refine xq_run hq rfl rfl (bad_q (k := 1) hT (rt) hq) ?_
          rintro v40 h40 ⟨rfl, g40, f40, l40⟩
          have hq := fx_q g40 hq
          rw [show (if rkk T n p = 1 then 1 else 1) = 1 by split <;> rfl] at f40
          have er : bo T n mem nn NW p o fs = .inr (1, tks T n p) := by
            unfold bo
            repeat (first | rw [if_pos (by omega)] | rw [if_neg (by omega)] | rw [if_pos b29] | rw [if_neg (by rw [b29]; decide)] | rw [if_pos b31] | rw [if_neg (by rw [b31]; decide)] | rw [if_pos (show lone T n p = true from decide_eq_true (by omega))] | rw [if_neg (show ¬ lone T n p = true from fun e => by have := of_decide_eq_true e; omega)])
            try rfl
          exact xq_ret rfl rfl rfl (dQ_r er)
    | false =>
      have z27 : (tke T n p - tks T n p) = 1 := nq_nef (a := (tke T n p - tks T n p)) (b := 1) (by omega) (by omega) c27
      refine xq_n 33 [0, 1] [(0, .ref 39), (1, .int (Int32.ofInt 1))] [.int 40, .ref 39] h [false, false, false] 19 hq rfl ⟨(show xe_c .ne (xg 0 h.2.1 39 9) (Int32.ofInt 2) = false by rw [show (xg 0 h.2.1 39 9) = (nI (rkk T n p)) from rt.2.1]; exact c1), (show xe_c .ne (xg 0 h.2.1 39 12) (Int32.ofInt 1) = false by rw [show (xg 0 h.2.1 39 12) = (nI (tke T n p - tks T n p)) from (rt.2.2.1 (by omega)).1]; exact c27), (show xe_c .eq (xg 0 h.2.1 39 9) (Int32.ofInt 3) = false by rw [show (xg 0 h.2.1 39 9) = (nI (rkk T n p)) from rt.2.1, z1]; rfl), trivial⟩ (fun hq => ?_)
      refine xq_run hq rfl rfl (rsg_q (c := 40) (by decide) (by decide) hT (rt) hq) ?_
      rintro v41 h_v41 ⟨rfl, rfl⟩
      cases b42 : (decide (tkk T n p = 40)) with
      | true =>
        have db42 := of_decide_eq_true b42
        omega
      | false =>
        have db42 := of_decide_eq_false b42
        refine xq_n 89 [0, 1] [(0, .ref 39), (1, .int (Int32.ofInt 1))] [.int (((xg 0 h.2.2.1 39 15).toInt32) - (Int32.ofInt 1)), .ref 39] h [false, true, true, false] 17 hq rfl ⟨rfl, (by decide), (show xe_c .ne (xg 0 h.2.1 39 9) (Int32.ofInt 3) = true by rw [show (xg 0 h.2.1 39 9) = (nI (rkk T n p)) from rt.2.1, z1]; rfl), (by decide), trivial⟩ (fun hq => ?_)
        rw [show (xg 0 h.2.2.1 39 15) = (Int64.ofNat (tkw T n p)) from (rt.2.2.1 (by omega)).2]
        have lw := lone_w (T := T) (n := n) (p := p) (decide_eq_true (by omega))
        rw [show (((Int64.ofNat (tkw T n p)).toInt32) - (Int32.ofInt 1)) = nI (tkw T n p - 1) from ll_v (by omega) (by omega) (by omega)]
        refine xq_run hq rfl rfl (rmb_q (m := (tkw T n p - 1)) (by omega) rr0.2.2.2.1 (rr0.2.2.1) hq) ?_
        rintro v43 h_v43 ⟨rfl, rfl⟩
        cases b44 : (decide ((tkw T n p - 1) < mem)) with
        | true =>
          have db44 := of_decide_eq_true b44
          refine xq_n 102 [0, 1] [(0, .ref 39), (1, .int (Int32.ofInt 1))] [.ref 39] h [true] 4 hq rfl ⟨rfl, trivial⟩ (fun hq => ?_)
          refine xq_run hq rfl rfl (rnm_q hT (rt) hq) ?_
          rintro v45 h_v45 ⟨rfl, rfl⟩
          cases b46 : (nmt T n p) with
          | true =>
            have db46 := of_decide_eq_true b46
            omega
          | false =>
            have db46 := of_decide_eq_false b46
            cases c47 : xe_c .ne (nI o) 120 with
            | true =>
              have z47 : o ≠ 120 := nq_net (a := o) (b := 120) (by omega) (by omega) c47
              refine xq_n 140 [0, 1] [(0, .ref 39), (1, .int (Int32.ofInt 1))] [.int 40, .ref 39] h [true, true] 9 hq rfl ⟨rfl, (show xe_c .ne (xg 0 h.2.1 39 27) 120 = true by rw [show (xg 0 h.2.1 39 27) = (nI o) from rr0.2.2.2.2.2.1]; exact c47), trivial⟩ (fun hq => ?_)
              refine xq_run hq rfl rfl (rsg_q (c := 40) (by decide) (by decide) hT (rt) hq) ?_
              rintro v48 h_v48 ⟨rfl, rfl⟩
              refine xq_n 228 [0, 1, 2] [(0, .ref 39), (1, .int (Int32.ofInt 1)), (2, .int (((xg 0 (xh_ui h 39 27 ((xg 0 h.2.1 39 27) + (Int32.ofInt 1))).2.2.1 39 15).toInt32) - (Int32.ofInt 1)))] [.ref 39] (xh_ui h 39 27 ((xg 0 h.2.1 39 27) + (Int32.ofInt 1))) [true, true, true] 24 hq rfl ⟨(show xe_c .eq (bl (decide (tkk T n p = 40))) 0 = true by rw [b42]; rfl), (show xe_c .ne (xg 0 (xh_ui h 39 27 ((xg 0 h.2.1 39 27) + (Int32.ofInt 1))).2.1 39 9) (Int32.ofInt 3) = true by rw [show (xg 0 (xh_ui h 39 27 ((xg 0 h.2.1 39 27) + (Int32.ofInt 1))).2.1 39 9) = (nI (rkk T n p)) from (gx_k (by decide)).trans (rt.2.1), z1]; rfl), (show xe_c .ne (xg 0 (xh_ui h 39 27 ((xg 0 h.2.1 39 27) + (Int32.ofInt 1))).2.1 39 9) (Int32.ofInt 4) = true by rw [show (xg 0 (xh_ui h 39 27 ((xg 0 h.2.1 39 27) + (Int32.ofInt 1))).2.1 39 9) = (nI (rkk T n p)) from (gx_k (by decide)).trans (rt.2.1), z1]; rfl), trivial⟩ (fun _ => ?_)
              rw [show (xg 0 (xh_ui h 39 27 ((xg 0 h.2.1 39 27) + (Int32.ofInt 1))).2.2.1 39 15) = (Int64.ofNat (tkw T n p)) from (rt.2.2.1 (by omega)).2]
              rw [show (xg 0 h.2.1 39 27) = (nI o) from rr0.2.2.2.2.2.1]
              rw [show ((nI o) + (Int32.ofInt 1)) = nI (o + 1) from nI_1 _]
              have hq : a_rq a_tb (xh_ui h 39 27 (nI (o + 1))) := a_rq_ui hq
              refine xq_run hq rfl rfl (np_q (nms_f (S := rS) (L := gL) rr0.2.2.2.2.1 (fx_ui (fx_0) rfl) rfl (fun _ => rfl)) ((rt.2.2.1 (by omega)).2) (tkw_lt (by omega)) hq) ?_
              rintro v49 h_49 ⟨rfl, ⟨rfl, hn49⟩ | ⟨kl49, rfl, hn49⟩⟩
              · skip
                refine xq_n 235 [0, 1, 2, 3, 4] [(0, .ref 39), (1, .int (Int32.ofInt 1)), (2, .int (((Int64.ofNat (tkw T n p)).toInt32) - (Int32.ofInt 1))), (3, .int (Int32.ofInt (-1))), (4, .int (Int32.ofInt 0))] [] (xh_ui h 39 27 (nI (o + 1))) [] 5 hq rfl trivial (fun hq => ?_)
                have er : bo T n mem nn NW p o fs = .inl (0, tke T n p, (o + 1), fs) := by
                  unfold bo
                  repeat (first | rw [if_pos (by omega)] | rw [if_neg (by omega)] | rw [if_pos b42] | rw [if_neg (by rw [b42]; decide)] | rw [if_pos b44] | rw [if_neg (by rw [b44]; decide)] | rw [if_pos b46] | rw [if_neg (by rw [b46]; decide)] | rw [if_pos hn49] | rw [if_neg (by rw [hn49]; decide)] | rw [if_pos (show lone T n p = true from decide_eq_true (by omega))] | rw [if_neg (show ¬ lone T n p = true from fun e => by have := of_decide_eq_true e; omega)])
                  try rfl
                have lw := lone_w (T := T) (n := n) (p := p) (decide_eq_true (by omega))
                have ev : vbo T n nn NW sv NV p ds one = (ds, sv.testBit (tkw T n p - 1)) := by unfold vbo; rw [if_neg (by omega), if_neg (by omega), if_pos (show lone T n p = true from decide_eq_true (by omega)), show T (tks T n p) - 97 = tkw T n p - 1 by omega]
                rw [ev]
                refine xq_mono (bom_dl (y1 := true) s4 (ll_v (by omega) (by omega) (by omega)) (by omega) f 0 _ fx_0 (⟨rtp_f (S := rS) (L := gL) rr0.1 (fx_ui (fx_0) rfl) rfl (fun _ => rfl), rtk_ui (rt) rfl, (gx_k (by decide)).trans (rr0.2.2.1), rr0.2.2.2.1, nms_f (S := rS) (L := gL) rr0.2.2.2.2.1 (fx_ui (fx_0) rfl) rfl (fun _ => rfl), gx_s, by omega, (gx_k (by decide)).trans (rr0.2.2.2.2.2.2.2.1), rr0.2.2.2.2.2.2.2.2.1, rr0.2.2.2.2.2.2.2.2.2.1, frs_c (fun k hk' => gx_o (by decide)) rr0.2.2.2.2.2.2.2.2.2.2.1, (gx_k (by decide)).trans (rr0.2.2.2.2.2.2.2.2.2.2.2)⟩) (by omega) (by omega) (dfr_39 s4 (dt)) (lp_0 _ ((gx_o (by decide)).trans (d45))) hq) (fun v h' e => dQ_l er e.1 e.2)
              · skip
                refine xq_n 235 [0, 1, 2, 3, 4] [(0, .ref 39), (1, .int (Int32.ofInt 1)), (2, .int (((Int64.ofNat (tkw T n p)).toInt32) - (Int32.ofInt 1))), (3, .int (nI (nmi nn NW (tkw T n p)))), (4, .int (Int32.ofInt 0))] [] (xh_ui h 39 27 (nI (o + 1))) [] 5 hq rfl trivial (fun hq => ?_)
                have er : bo T n mem nn NW p o fs = .inl (0, tke T n p, (o + 1), fs) := by
                  unfold bo
                  repeat (first | rw [if_pos (by omega)] | rw [if_neg (by omega)] | rw [if_pos b42] | rw [if_neg (by rw [b42]; decide)] | rw [if_pos b44] | rw [if_neg (by rw [b44]; decide)] | rw [if_pos b46] | rw [if_neg (by rw [b46]; decide)] | rw [if_pos hn49] | rw [if_neg (by rw [hn49]; decide)] | rw [if_pos (show lone T n p = true from decide_eq_true (by omega))] | rw [if_neg (show ¬ lone T n p = true from fun e => by have := of_decide_eq_true e; omega)])
                  try rfl
                have lw := lone_w (T := T) (n := n) (p := p) (decide_eq_true (by omega))
                have ev : vbo T n nn NW sv NV p ds one = (ds, sv.testBit (tkw T n p - 1)) := by unfold vbo; rw [if_neg (by omega), if_neg (by omega), if_pos (show lone T n p = true from decide_eq_true (by omega)), show T (tks T n p) - 97 = tkw T n p - 1 by omega]
                rw [ev]
                refine xq_mono (bom_dl (y1 := true) s4 (ll_v (by omega) (by omega) (by omega)) (by omega) f 0 _ fx_0 (⟨rtp_f (S := rS) (L := gL) rr0.1 (fx_ui (fx_0) rfl) rfl (fun _ => rfl), rtk_ui (rt) rfl, (gx_k (by decide)).trans (rr0.2.2.1), rr0.2.2.2.1, nms_f (S := rS) (L := gL) rr0.2.2.2.2.1 (fx_ui (fx_0) rfl) rfl (fun _ => rfl), gx_s, by omega, (gx_k (by decide)).trans (rr0.2.2.2.2.2.2.2.1), rr0.2.2.2.2.2.2.2.2.1, rr0.2.2.2.2.2.2.2.2.2.1, frs_c (fun k hk' => gx_o (by decide)) rr0.2.2.2.2.2.2.2.2.2.2.1, (gx_k (by decide)).trans (rr0.2.2.2.2.2.2.2.2.2.2.2)⟩) (by omega) (by omega) (dfr_39 s4 (dt)) (lp_0 _ ((gx_o (by decide)).trans (d45))) hq) (fun v h' e => dQ_l er e.1 e.2)
            | false =>
              have z47 : o = 120 := nq_nef (a := o) (b := 120) (by omega) (by omega) c47
              refine xq_n 133 [0, 1] [(0, .ref 39), (1, .int (Int32.ofInt 1))] [.int (Int32.ofInt 4), .ref 39] h [true, false] 9 hq rfl ⟨rfl, (show xe_c .ne (xg 0 h.2.1 39 27) 120 = false by rw [show (xg 0 h.2.1 39 27) = (nI o) from rr0.2.2.2.2.2.1]; exact c47), trivial⟩ (fun hq => ?_)
              refine xq_run hq rfl rfl (bad_q (k := 4) hT (rt) hq) ?_
              rintro v50 h50 ⟨rfl, g50, f50, l50⟩
              have hq := fx_q g50 hq
              rw [if_neg (show ¬ rkk T n p = 1 from fun e => by have e1 := rk1.mp e; omega)] at f50
              have er : bo T n mem nn NW p o fs = .inr (4, tks T n p) := by
                unfold bo
                repeat (first | rw [if_pos (by omega)] | rw [if_neg (by omega)] | rw [if_pos b42] | rw [if_neg (by rw [b42]; decide)] | rw [if_pos b44] | rw [if_neg (by rw [b44]; decide)] | rw [if_pos b46] | rw [if_neg (by rw [b46]; decide)] | rw [if_pos (show lone T n p = true from decide_eq_true (by omega))] | rw [if_neg (show ¬ lone T n p = true from fun e => by have := of_decide_eq_true e; omega)])
                try rfl
              exact xq_ret rfl rfl rfl (dQ_r er)
        | false =>
          have db44 := of_decide_eq_false b44
          refine xq_n 97 [0, 1] [(0, .ref 39), (1, .int (Int32.ofInt 1))] [.int (Int32.ofInt 2), .ref 39] h [false] 5 hq rfl ⟨rfl, trivial⟩ (fun hq => ?_)
          refine xq_run hq rfl rfl (bad_q (k := 2) hT (rt) hq) ?_
          rintro v51 h51 ⟨rfl, g51, f51, l51⟩
          have hq := fx_q g51 hq
          rw [if_neg (show ¬ rkk T n p = 1 from fun e => by have e1 := rk1.mp e; omega)] at f51
          have er : bo T n mem nn NW p o fs = .inr (2, tks T n p) := by
            unfold bo
            repeat (first | rw [if_pos (by omega)] | rw [if_neg (by omega)] | rw [if_pos b42] | rw [if_neg (by rw [b42]; decide)] | rw [if_pos b44] | rw [if_neg (by rw [b44]; decide)] | rw [if_pos (show lone T n p = true from decide_eq_true (by omega))] | rw [if_neg (show ¬ lone T n p = true from fun e => by have := of_decide_eq_true e; omega)])
            try rfl
          exact xq_ret rfl rfl rfl (dQ_r er)
theorem dfr_w48 {h : xh_H} {sv : Nat} {x : Int32} (s4 : sv < 4096) {fs : List Nat} {ds : List vF} (f1 : 1 ≤ fs.length) (d : dfr h sv fs ds) : dfr (xh_ui h 48 (fs.length - 1) x) sv fs (vw x ds) := by
  cases fs with
  | nil => exact absurd f1 (by decide)
  | cons t fs => exact dfr_48 s4 d
theorem dnm_f {S L : Nat → Nat → Bool} {h h' : xh_H} {sv : Nat} {NV : Nat → Bool} (d : dnm h sv nn NV) (g : fx S L h h') (e : ∀ k, S 43 k = false) : dnm h' sv nn NV := fun k hk' => (fx_i g (e _)).trans (d k hk')
set_option maxRecDepth 100000 in
set_option maxHeartbeats 4000000 in
theorem bi_d {f p o : Nat} {fs : List Nat} {h : xh_H} {sv : Nat} {ds : List vF} {one : Bool} (s4 : sv < 4096) (dt : dfr h sv fs ds) (d45 : xg 0 h.2.1 45 sv = bl one) {NV : Nat → Bool} (dn : dnm h sv nn NV) (rr0 : rr h T n mem nn NW p o fs) (h3 : tkk T n p = 3) (hq : a_rq a_tb h) : xq f xi_X10_beginItem xmi_X10_beginItem 0 [(0, .ref 39)] [] h (fun v h' => dQ h' sv (bi T n mem nn NW p o fs) (vbi T n nn NW sv NV p ds one)) := by
  have hT : ∀ k, k < n → T k < 256 := fun k hk' => (rr0.1.2.2 k hk').1
  have rt := rr0.2.1
  have rb := (rkk_k (T := T) (n := n) (p := p)).1
  have kb := tkk_lt (T := T) (n := n) (p := p) hT
  have o120 := rr0.2.2.2.2.2.2.1
  have f1 := rr0.2.2.2.2.2.2.2.2.1
  have n16 := rr0.2.2.2.2.1.2.1
  have f13 := rr0.2.2.2.2.2.2.2.2.2.1
  have n6 := rr0.1.2.1
  have hfs := f1
  have t9 : tkn T n p ≤ 999 := vf_999
  have s6 := tks_le (T := T) (n := n) (p := p)
  refine xq_n 11 [0, 1, 2] [(0, .ref 39), (1, .int (xg 0 h.2.1 39 10)), (2, .int (xg 0 h.2.1 39 8))] [.ref 39] h [] 9 hq rfl trivial (fun hq => ?_)
  rw [show (xg 0 h.2.1 39 10) = (nI (tkn T n p)) from rt.2.2.2.1 (by omega)]
  rw [show (xg 0 h.2.1 39 8) = (nI (tks T n p)) from rt.1]
  have nz1 : tkk T n p ≠ 0 := by omega
  have le1 := tke_le nz1
  refine xq_run hq rfl rfl (go_q hq (rr0.1) (rt.2.2.2.2.2 (by omega)) le1) ?_
  rintro v1 h1 ⟨rfl, g1, t1⟩
  have hq := fx_q g1 hq
  have rb1 := (rkk_k (T := T) (n := n) (p := tke T n p)).1
  have kb1 := tkk_lt (T := T) (n := n) (p := tke T n p) hT
  refine xq_n 17 [0, 1, 2] [(0, .ref 39), (1, .int (nI (tkn T n p))), (2, .int (nI (tks T n p)))] [.int 42, .ref 39] h1 [] 4 hq rfl trivial (fun hq => ?_)
  refine xq_run hq rfl rfl (rsg_q (c := 42) (by decide) (by decide) hT (t1) hq) ?_
  rintro v2 h_v2 ⟨rfl, rfl⟩
  cases b3 : (decide (tkk T n (tke T n p) = 42)) with
  | true =>
    have db3 := of_decide_eq_true b3
    refine xq_n 34 [0, 1, 2] [(0, .ref 39), (1, .int (nI (tkn T n p))), (2, .int (nI (tks T n p)))] [.ref 39] (xh_ui h1 48 ((xg 0 h1.2.1 39 28).toNatClampNeg) (nI (tkn T n p))) [false] 10 hq rfl ⟨rfl, trivial⟩ (fun _ => ?_)
    rw [show (xg 0 h1.2.1 39 28) = (nI (fs.length - 1)) from (fx_i g1 rfl).trans (rr0.2.2.2.2.2.2.2.1)]
    rw [show ((nI (fs.length - 1)).toNatClampNeg) = (fs.length - 1) from nI_clamp (by omega)]
    have hq : a_rq a_tb (xh_ui h1 48 (fs.length - 1) (nI (tkn T n p))) := a_rq_ui hq
    have nz4 : tkk T n (tke T n p) ≠ 0 := by omega
    have le4 := tke_le nz4
    refine xq_run hq rfl rfl (go_q hq (rtp_f (S := rS) (L := gL) rr0.1 (fx_ui (fx_t (fx_0) (fx_w g1 (fun _ _ => gS_r) (fun _ _ z => z))) rfl) rfl (fun _ => rfl)) ((gx_o (by decide)).trans (t1.2.2.2.2.2 (by omega))) le4) ?_
    rintro v4 h4 ⟨rfl, g4, t4⟩
    have hq := fx_q g4 hq
    have rb4 := (rkk_k (T := T) (n := n) (p := tke T n (tke T n p))).1
    have kb4 := tkk_lt (T := T) (n := n) (p := tke T n (tke T n p)) hT
    refine xq_n 38 [0, 1, 2] [(0, .ref 39), (1, .int (nI (tkn T n p))), (2, .int (nI (tks T n p)))] [.ref 39] h4 [] 3 hq rfl trivial (fun hq => ?_)
    have er : bi T n mem nn NW p o fs = bo T n mem nn NW (tke T n (tke T n p)) o fs := by
      unfold bi
      repeat (first | rw [if_pos (by omega)] | rw [if_neg (by omega)] | rw [if_pos b3] | rw [if_neg (by rw [b3]; decide)])
      try rfl
    have ev : vbi T n nn NW sv NV p ds one = vbo T n nn NW sv NV (tke T n (tke T n p)) (vw (nI (tkn T n p)) ds) one := by unfold vbi; rw [if_pos (by omega)]
    refine xq_run hq rfl rfl (xq_and (bo_q ⟨rtp_f (S := rS) (L := gL) rr0.1 (fx_t (fx_ui (fx_t (fx_0) (fx_w g1 (fun _ _ => gS_r) (fun _ _ z => z))) rfl) (fx_w g4 (fun _ _ => gS_r) (fun _ _ z => z))) rfl (fun _ => rfl), t4, (fx_i g4 rfl).trans ((gx_o (by decide)).trans ((fx_i g1 rfl).trans (rr0.2.2.1))), rr0.2.2.2.1, nms_f (S := rS) (L := gL) rr0.2.2.2.2.1 (fx_t (fx_ui (fx_t (fx_0) (fx_w g1 (fun _ _ => gS_r) (fun _ _ z => z))) rfl) (fx_w g4 (fun _ _ => gS_r) (fun _ _ z => z))) rfl (fun _ => rfl), (fx_i g4 rfl).trans ((gx_o (by decide)).trans ((fx_i g1 rfl).trans (rr0.2.2.2.2.2.1))), by omega, (fx_i g4 rfl).trans ((gx_o (by decide)).trans ((fx_i g1 rfl).trans (rr0.2.2.2.2.2.2.2.1))), rr0.2.2.2.2.2.2.2.2.1, rr0.2.2.2.2.2.2.2.2.2.1, frs_c (fun k hk' => (fx_i g4 rfl).trans ((gx_o (by decide)).trans (fx_i g1 rfl))) rr0.2.2.2.2.2.2.2.2.2.2.1, (fx_i g4 rfl).trans ((gx_o (by decide)).trans ((fx_i g1 rfl).trans (rr0.2.2.2.2.2.2.2.2.2.2.2)))⟩ hq) (bo_d s4 (dfr_go s4 (dfr_w48 s4 hfs (dfr_go s4 (dt) g1)) g4) ((fx_i g4 rfl).trans ((gx_o (by decide)).trans ((fx_i g1 rfl).trans (d45)))) (dnm_f (S := rS) (L := gL) dn (fx_t (fx_ui (fx_t (fx_0) (fx_w g1 (fun _ _ => gS_r) (fun _ _ z => z))) rfl) (fx_w g4 (fun _ _ => gS_r) (fun _ _ z => z))) (fun _ => rfl)) ⟨rtp_f (S := rS) (L := gL) rr0.1 (fx_t (fx_ui (fx_t (fx_0) (fx_w g1 (fun _ _ => gS_r) (fun _ _ z => z))) rfl) (fx_w g4 (fun _ _ => gS_r) (fun _ _ z => z))) rfl (fun _ => rfl), t4, (fx_i g4 rfl).trans ((gx_o (by decide)).trans ((fx_i g1 rfl).trans (rr0.2.2.1))), rr0.2.2.2.1, nms_f (S := rS) (L := gL) rr0.2.2.2.2.1 (fx_t (fx_ui (fx_t (fx_0) (fx_w g1 (fun _ _ => gS_r) (fun _ _ z => z))) rfl) (fx_w g4 (fun _ _ => gS_r) (fun _ _ z => z))) rfl (fun _ => rfl), (fx_i g4 rfl).trans ((gx_o (by decide)).trans ((fx_i g1 rfl).trans (rr0.2.2.2.2.2.1))), by omega, (fx_i g4 rfl).trans ((gx_o (by decide)).trans ((fx_i g1 rfl).trans (rr0.2.2.2.2.2.2.2.1))), rr0.2.2.2.2.2.2.2.2.1, rr0.2.2.2.2.2.2.2.2.2.1, frs_c (fun k hk' => (fx_i g4 rfl).trans ((gx_o (by decide)).trans (fx_i g1 rfl))) rr0.2.2.2.2.2.2.2.2.2.2.1, (fx_i g4 rfl).trans ((gx_o (by decide)).trans ((fx_i g1 rfl).trans (rr0.2.2.2.2.2.2.2.2.2.2.2)))⟩ hq)) ?_
    rintro v5 h5 ⟨⟨g5, l5, q5⟩, dq5⟩
    have hq := fx_q g5 hq
    rw [er, ev]
    have hv5 : ∃ x, v5 = some (.int x) := by
      cases hr5 : (bo T n mem nn NW (tke T n (tke T n p)) o fs) with
      | inl s => obtain ⟨a1, a2, a3, a4⟩ := s; exact ⟨1, (l5 _ _ _ _ hr5).1⟩
      | inr e => obtain ⟨a1, a2⟩ := e; exact ⟨0, (q5 _ _ hr5).1⟩
    obtain ⟨x5, rfl⟩ := hv5
    exact xq_ret rfl rfl rfl dq5
  | false =>
    have db3 := of_decide_eq_false b3
    refine xq_n 53 [0, 1, 2] [(0, .ref 39), (1, .int (nI (tkn T n p))), (2, .int (nI (tks T n p)))] [.ref 39] (xh_ui h1 48 ((xg 0 h1.2.1 39 28).toNatClampNeg) (Int32.ofInt 1)) [true] 10 hq rfl ⟨rfl, trivial⟩ (fun _ => ?_)
    rw [show (xg 0 h1.2.1 39 28) = (nI (fs.length - 1)) from (fx_i g1 rfl).trans (rr0.2.2.2.2.2.2.2.1)]
    rw [show ((nI (fs.length - 1)).toNatClampNeg) = (fs.length - 1) from nI_clamp (by omega)]
    have hq : a_rq a_tb (xh_ui h1 48 (fs.length - 1) (Int32.ofInt 1)) := a_rq_ui hq
    refine xq_run hq rfl rfl (rw4_q hT (rtk_ui (t1) rfl) hq) ?_
    rintro v6 h_v6 ⟨rfl, rfl⟩
    cases b7 : (ky T n (tke T n p) 4) with
    | true =>
      have db7 := of_decide_eq_true b7
      cases c8 : xe_c .ne (nI (tkn T n p)) 0 with
      | true =>
        have z8 : (tkn T n p) ≠ 0 := nq_net (a := (tkn T n p)) (b := 0) (by omega) (by omega) c8
        cases c9 : xe_c .ne (nI o) 120 with
        | true =>
          have z9 : o ≠ 120 := nq_net (a := o) (b := 120) (by omega) (by omega) c9
          refine xq_n 104 [0, 1, 2] [(0, .ref 39), (1, .int (nI (tkn T n p))), (2, .int (nI (tks T n p)))] [.int (nI (tkn T n p)), .ref 39] (xh_ui (xh_ui h1 48 (fs.length - 1) (Int32.ofInt 1)) 39 27 ((xg 0 (xh_ui h1 48 (fs.length - 1) (Int32.ofInt 1)).2.1 39 27) + (Int32.ofInt 1))) [true, true, true] 17 hq rfl ⟨rfl, c8, (show xe_c .ne (xg 0 (xh_ui h1 48 (fs.length - 1) (Int32.ofInt 1)).2.1 39 27) 120 = true by rw [show (xg 0 (xh_ui h1 48 (fs.length - 1) (Int32.ofInt 1)).2.1 39 27) = (nI o) from (gx_o (by decide)).trans ((fx_i g1 rfl).trans (rr0.2.2.2.2.2.1))]; exact c9), trivial⟩ (fun _ => ?_)
          rw [show (xg 0 (xh_ui h1 48 (fs.length - 1) (Int32.ofInt 1)).2.1 39 27) = (nI o) from (gx_o (by decide)).trans ((fx_i g1 rfl).trans (rr0.2.2.2.2.2.1))]
          rw [show ((nI o) + (Int32.ofInt 1)) = nI (o + 1) from nI_1 _]
          have hq : a_rq a_tb (xh_ui (xh_ui h1 48 (fs.length - 1) (Int32.ofInt 1)) 39 27 (nI (o + 1))) := a_rq_ui hq
          have er : bi T n mem nn NW p o fs = bls T n (tke T n p) (o + 1) fs := by
            unfold bi
            repeat (first | rw [if_pos (by omega)] | rw [if_neg (by omega)] | rw [if_pos b3] | rw [if_neg (by rw [b3]; decide)] | rw [if_pos b7] | rw [if_neg (by rw [b7]; decide)])
            try rfl
          have ev : vbi T n nn NW sv NV p ds one = (vL (nI (tkn T n p)) :: vw 1 ds, one) := by unfold vbi; rw [if_neg (by omega)]
          refine xq_run hq rfl rfl (xq_and (bls_q ⟨rtp_f (S := rS) (L := gL) rr0.1 (fx_ui (fx_ui (fx_t (fx_0) (fx_w g1 (fun _ _ => gS_r) (fun _ _ z => z))) rfl) rfl) rfl (fun _ => rfl), rtk_ui (rtk_ui (t1) rfl) rfl, (gx_k (by decide)).trans ((gx_o (by decide)).trans ((fx_i g1 rfl).trans (rr0.2.2.1))), rr0.2.2.2.1, nms_f (S := rS) (L := gL) rr0.2.2.2.2.1 (fx_ui (fx_ui (fx_t (fx_0) (fx_w g1 (fun _ _ => gS_r) (fun _ _ z => z))) rfl) rfl) rfl (fun _ => rfl), gx_s, by omega, (gx_k (by decide)).trans ((gx_o (by decide)).trans ((fx_i g1 rfl).trans (rr0.2.2.2.2.2.2.2.1))), rr0.2.2.2.2.2.2.2.2.1, rr0.2.2.2.2.2.2.2.2.2.1, frs_c (fun k hk' => (gx_o (by decide)).trans ((gx_o (by decide)).trans (fx_i g1 rfl))) rr0.2.2.2.2.2.2.2.2.2.2.1, (gx_k (by decide)).trans ((gx_o (by decide)).trans ((fx_i g1 rfl).trans (rr0.2.2.2.2.2.2.2.2.2.2.2)))⟩ hq) (bls_d (a := (tkn T n p)) s4 (dfr_39 s4 (dfr_w48 s4 hfs (dfr_go s4 (dt) g1))) ((gx_o (by decide)).trans ((gx_o (by decide)).trans ((fx_i g1 rfl).trans (d45)))) ⟨rtp_f (S := rS) (L := gL) rr0.1 (fx_ui (fx_ui (fx_t (fx_0) (fx_w g1 (fun _ _ => gS_r) (fun _ _ z => z))) rfl) rfl) rfl (fun _ => rfl), rtk_ui (rtk_ui (t1) rfl) rfl, (gx_k (by decide)).trans ((gx_o (by decide)).trans ((fx_i g1 rfl).trans (rr0.2.2.1))), rr0.2.2.2.1, nms_f (S := rS) (L := gL) rr0.2.2.2.2.1 (fx_ui (fx_ui (fx_t (fx_0) (fx_w g1 (fun _ _ => gS_r) (fun _ _ z => z))) rfl) rfl) rfl (fun _ => rfl), gx_s, by omega, (gx_k (by decide)).trans ((gx_o (by decide)).trans ((fx_i g1 rfl).trans (rr0.2.2.2.2.2.2.2.1))), rr0.2.2.2.2.2.2.2.2.1, rr0.2.2.2.2.2.2.2.2.2.1, frs_c (fun k hk' => (gx_o (by decide)).trans ((gx_o (by decide)).trans (fx_i g1 rfl))) rr0.2.2.2.2.2.2.2.2.2.2.1, (gx_k (by decide)).trans ((gx_o (by decide)).trans ((fx_i g1 rfl).trans (rr0.2.2.2.2.2.2.2.2.2.2.2)))⟩ hq)) ?_
          rintro v10 h10 ⟨⟨g10, l10, q10⟩, dq10⟩
          have hq := fx_q g10 hq
          rw [er, ev]
          have hv10 : ∃ x, v10 = some (.int x) := by
            cases hr10 : (bls T n (tke T n p) (o + 1) fs) with
            | inl s => obtain ⟨a1, a2, a3, a4⟩ := s; exact ⟨1, (l10 _ _ _ _ hr10).1⟩
            | inr e => obtain ⟨a1, a2⟩ := e; exact ⟨0, (q10 _ _ hr10).1⟩
          obtain ⟨x10, rfl⟩ := hv10
          exact xq_ret rfl rfl rfl dq10
        | false =>
          have z9 : o = 120 := nq_nef (a := o) (b := 120) (by omega) (by omega) c9
          refine xq_n 88 [0, 1, 2] [(0, .ref 39), (1, .int (nI (tkn T n p))), (2, .int (nI (tks T n p)))] [.int (nI (tks T n p)), .int (Int32.ofInt 4), .ref 39] (xh_ui h1 48 (fs.length - 1) (Int32.ofInt 1)) [true, true, false] 12 hq rfl ⟨rfl, c8, (show xe_c .ne (xg 0 (xh_ui h1 48 (fs.length - 1) (Int32.ofInt 1)).2.1 39 27) 120 = false by rw [show (xg 0 (xh_ui h1 48 (fs.length - 1) (Int32.ofInt 1)).2.1 39 27) = (nI o) from (gx_o (by decide)).trans ((fx_i g1 rfl).trans (rr0.2.2.2.2.2.1))]; exact c9), trivial⟩ (fun hq => ?_)
          refine xq_run hq rfl rfl (badAt_q (k := 4) (pl := (tks T n p)) hq) ?_
          rintro v11 h11 ⟨rfl, g11, f11, l11⟩
          have hq := fx_q g11 hq
          have er : bi T n mem nn NW p o fs = .inr (4, tks T n p) := by
            unfold bi
            repeat (first | rw [if_pos (by omega)] | rw [if_neg (by omega)] | rw [if_pos b3] | rw [if_neg (by rw [b3]; decide)] | rw [if_pos b7] | rw [if_neg (by rw [b7]; decide)])
            try rfl
          exact xq_ret rfl rfl rfl (dQ_r er)
      | false =>
        have z8 : (tkn T n p) = 0 := nq_nef (a := (tkn T n p)) (b := 0) (by omega) (by omega) c8
        refine xq_n 72 [0, 1, 2] [(0, .ref 39), (1, .int (nI (tkn T n p))), (2, .int (nI (tks T n p)))] [.int (nI (tks T n p)), .int (Int32.ofInt 2), .ref 39] (xh_ui h1 48 (fs.length - 1) (Int32.ofInt 1)) [true, false] 8 hq rfl ⟨rfl, c8, trivial⟩ (fun hq => ?_)
        refine xq_run hq rfl rfl (badAt_q (k := 2) (pl := (tks T n p)) hq) ?_
        rintro v12 h12 ⟨rfl, g12, f12, l12⟩
        have hq := fx_q g12 hq
        have er : bi T n mem nn NW p o fs = .inr (2, tks T n p) := by
          unfold bi
          repeat (first | rw [if_pos (by omega)] | rw [if_neg (by omega)] | rw [if_pos b3] | rw [if_neg (by rw [b3]; decide)] | rw [if_pos b7] | rw [if_neg (by rw [b7]; decide)])
          try rfl
        exact xq_ret rfl rfl rfl (dQ_r er)
    | false =>
      have db7 := of_decide_eq_false b7
      refine xq_n 61 [0, 1, 2] [(0, .ref 39), (1, .int (nI (tkn T n p))), (2, .int (nI (tks T n p)))] [.int (Int32.ofInt 1), .ref 39] (xh_ui h1 48 (fs.length - 1) (Int32.ofInt 1)) [false] 5 hq rfl ⟨rfl, trivial⟩ (fun hq => ?_)
      refine xq_run hq rfl rfl (bad_q (k := 1) hT (rtk_ui (t1) rfl) hq) ?_
      rintro v13 h13 ⟨rfl, g13, f13, l13⟩
      have hq := fx_q g13 hq
      rw [show (if rkk T n (tke T n p) = 1 then 1 else 1) = 1 by split <;> rfl] at f13
      have er : bi T n mem nn NW p o fs = .inr (1, tks T n (tke T n p)) := by
        unfold bi
        repeat (first | rw [if_pos (by omega)] | rw [if_neg (by omega)] | rw [if_pos b3] | rw [if_neg (by rw [b3]; decide)] | rw [if_pos b7] | rw [if_neg (by rw [b7]; decide)])
        try rfl
      exact xq_ret rfl rfl rfl (dQ_r er)
set_option maxRecDepth 100000 in
set_option maxHeartbeats 4000000 in
theorem bg_d {f p o ty : Nat} {fs : List Nat} {h : xh_H} {sv : Nat} {ds : List vF} {one : Bool} (s4 : sv < 4096) (dt : dfr h sv fs ds) (d45 : xg 0 h.2.1 45 sv = bl one) {NV : Nat → Bool} (dn : dnm h sv nn NV) (rr0 : rr h T n mem nn NW p o fs) (hty : fs.head? = some ty) (e47 : xg 0 h.2.1 47 (fs.length - 1) = nI ty) (ty2 : ty ≤ 2) (hq : a_rq a_tb h) : xq f xi_X10_begin xmi_X10_begin 0 [(0, .ref 39)] [] h (fun v h' => dQ h' sv (bg T n mem nn NW p o fs) (vbg T n nn NW sv NV p fs ds one)) := by
  have hT : ∀ k, k < n → T k < 256 := fun k hk' => (rr0.1.2.2 k hk').1
  have rt := rr0.2.1
  have rb := (rkk_k (T := T) (n := n) (p := p)).1
  have kb := tkk_lt (T := T) (n := n) (p := p) hT
  have o120 := rr0.2.2.2.2.2.2.1
  have f1 := rr0.2.2.2.2.2.2.2.2.1
  have n16 := rr0.2.2.2.2.1.2.1
  have f13 := rr0.2.2.2.2.2.2.2.2.2.1
  have n6 := rr0.1.2.1
  have hh : fs.head? = some 2 ↔ ty = 2 := by rw [hty]; exact ⟨fun e => Option.some.inj e, fun e => by rw [e]⟩
  cases c1 : xe_c .ne (nI ty) (Int32.ofInt 2) with
  | true =>
    have z1 : ty ≠ 2 := nq_net (a := ty) (b := 2) (by omega) (by omega) c1
    refine xq_n 27 [0] [(0, .ref 39)] [.ref 39] h [true] 10 hq rfl ⟨(show xe_c .ne (xg 0 h.2.1 47 ((xg 0 h.2.1 39 28).toNatClampNeg)) (Int32.ofInt 2) = true by rw [show (xg 0 h.2.1 47 ((xg 0 h.2.1 39 28).toNatClampNeg)) = (nI ty) from (by rw [show (xg 0 h.2.1 39 28) = (nI (fs.length - 1)) from rr0.2.2.2.2.2.2.2.1, show ((nI (fs.length - 1)).toNatClampNeg) = (fs.length - 1) from nI_clamp (by omega)]; exact e47)]; exact c1), trivial⟩ (fun hq => ?_)
    have er : bg T n mem nn NW p o fs = bo T n mem nn NW p o fs := by
      unfold bg
      first | rw [if_pos ⟨hh.mpr (by omega), by omega⟩] | rw [if_neg (by rintro ⟨e1, e2⟩; have := hh.mp e1; omega)]
    have ev : vbg T n nn NW sv NV p fs ds one = vbo T n nn NW sv NV p ds one := by unfold vbg; rw [if_neg (by rintro ⟨e1, e2⟩; have := hh.mp e1; omega)]
    refine xq_run hq rfl rfl (xq_and (bo_q rr0 hq) (bo_d s4 dt d45 dn rr0 hq)) ?_
    rintro v2 h2 ⟨⟨g2, l2, q2⟩, dq2⟩
    have hq := fx_q g2 hq
    rw [er, ev]
    have hv2 : ∃ x, v2 = some (.int x) := by
      cases hr2 : (bo T n mem nn NW p o fs) with
      | inl s => obtain ⟨a1, a2, a3, a4⟩ := s; exact ⟨1, (l2 _ _ _ _ hr2).1⟩
      | inr e => obtain ⟨a1, a2⟩ := e; exact ⟨0, (q2 _ _ hr2).1⟩
    obtain ⟨x2, rfl⟩ := hv2
    exact xq_ret rfl rfl rfl dq2
  | false =>
    have z1 : ty = 2 := nq_nef (a := ty) (b := 2) (by omega) (by omega) c1
    cases c3 : xe_c .ne (nI (rkk T n p)) (Int32.ofInt 3) with
    | true =>
      have z3 : (rkk T n p) ≠ 3 := nq_net (a := (rkk T n p)) (b := 3) (by omega) (by omega) c3
      have yc3 := mt (rk3 (T := T) (n := n) (p := p)).mpr z3
      refine xq_n 27 [0] [(0, .ref 39)] [.ref 39] h [false, true] 14 hq rfl ⟨(show xe_c .ne (xg 0 h.2.1 47 ((xg 0 h.2.1 39 28).toNatClampNeg)) (Int32.ofInt 2) = false by rw [show (xg 0 h.2.1 47 ((xg 0 h.2.1 39 28).toNatClampNeg)) = (nI ty) from (by rw [show (xg 0 h.2.1 39 28) = (nI (fs.length - 1)) from rr0.2.2.2.2.2.2.2.1, show ((nI (fs.length - 1)).toNatClampNeg) = (fs.length - 1) from nI_clamp (by omega)]; exact e47)]; exact c1), (show xe_c .ne (xg 0 h.2.1 39 9) (Int32.ofInt 3) = true by rw [show (xg 0 h.2.1 39 9) = (nI (rkk T n p)) from rt.2.1]; exact c3), trivial⟩ (fun hq => ?_)
      have er : bg T n mem nn NW p o fs = bo T n mem nn NW p o fs := by
        unfold bg
        first | rw [if_pos ⟨hh.mpr (by omega), by omega⟩] | rw [if_neg (by rintro ⟨e1, e2⟩; have := hh.mp e1; omega)]
      have ev : vbg T n nn NW sv NV p fs ds one = vbo T n nn NW sv NV p ds one := by unfold vbg; rw [if_neg (by rintro ⟨e1, e2⟩; have := hh.mp e1; omega)]
      refine xq_run hq rfl rfl (xq_and (bo_q rr0 hq) (bo_d s4 dt d45 dn rr0 hq)) ?_
      rintro v4 h4 ⟨⟨g4, l4, q4⟩, dq4⟩
      have hq := fx_q g4 hq
      rw [er, ev]
      have hv4 : ∃ x, v4 = some (.int x) := by
        cases hr4 : (bo T n mem nn NW p o fs) with
        | inl s => obtain ⟨a1, a2, a3, a4⟩ := s; exact ⟨1, (l4 _ _ _ _ hr4).1⟩
        | inr e => obtain ⟨a1, a2⟩ := e; exact ⟨0, (q4 _ _ hr4).1⟩
      obtain ⟨x4, rfl⟩ := hv4
      exact xq_ret rfl rfl rfl dq4
    | false =>
      have z3 : (rkk T n p) = 3 := nq_nef (a := (rkk T n p)) (b := 3) (by omega) (by omega) c3
      have yc3 := (rk3 (T := T) (n := n) (p := p)).mp z3
      refine xq_n 22 [0] [(0, .ref 39)] [.ref 39] h [false, false] 14 hq rfl ⟨(show xe_c .ne (xg 0 h.2.1 47 ((xg 0 h.2.1 39 28).toNatClampNeg)) (Int32.ofInt 2) = false by rw [show (xg 0 h.2.1 47 ((xg 0 h.2.1 39 28).toNatClampNeg)) = (nI ty) from (by rw [show (xg 0 h.2.1 39 28) = (nI (fs.length - 1)) from rr0.2.2.2.2.2.2.2.1, show ((nI (fs.length - 1)).toNatClampNeg) = (fs.length - 1) from nI_clamp (by omega)]; exact e47)]; exact c1), (show xe_c .ne (xg 0 h.2.1 39 9) (Int32.ofInt 3) = false by rw [show (xg 0 h.2.1 39 9) = (nI (rkk T n p)) from rt.2.1]; exact c3), trivial⟩ (fun hq => ?_)
      have er : bg T n mem nn NW p o fs = bi T n mem nn NW p o fs := by
        unfold bg
        first | rw [if_pos ⟨hh.mpr (by omega), by omega⟩] | rw [if_neg (by rintro ⟨e1, e2⟩; have := hh.mp e1; omega)]
      have ev : vbg T n nn NW sv NV p fs ds one = vbi T n nn NW sv NV p ds one := by unfold vbg; rw [if_pos ⟨hh.mpr (by omega), by omega⟩]
      refine xq_run hq rfl rfl (xq_and (bi_q rr0 (by omega) hq) (bi_d s4 dt d45 dn rr0 (by omega) hq)) ?_
      rintro v5 h5 ⟨⟨g5, l5, q5⟩, dq5⟩
      have hq := fx_q g5 hq
      rw [er, ev]
      have hv5 : ∃ x, v5 = some (.int x) := by
        cases hr5 : (bi T n mem nn NW p o fs) with
        | inl s => obtain ⟨a1, a2, a3, a4⟩ := s; exact ⟨1, (l5 _ _ _ _ hr5).1⟩
        | inr e => obtain ⟨a1, a2⟩ := e; exact ⟨0, (q5 _ _ hr5).1⟩
      obtain ⟨x5, rfl⟩ := hv5
      exact xq_ret rfl rfl rfl dq5
end XDB
end
section
section XDE
variable {T : Nat → Nat} {n mem nn : Nat} {NW : Nat → Nat}
def E6 (t c k : Nat) : Bool := Nat.beq c 46 && Nat.ble (4096 * t) k
def E2 (t c k : Nat) : Bool := Nat.beq c 42 && Nat.ble (4096 * t) k
def E1 (t c k : Nat) : Bool := (Nat.beq c 41 || Nat.beq c 42) && Nat.ble (4096 * t) k
def E5 (c _k : Nat) : Bool := Nat.beq c 45
theorem ble_t {t k : Nat} (h : 4096 * t ≤ k) : Nat.ble (4096 * t) k = true := Nat.ble_eq.mpr h
theorem ble_n {t k : Nat} (h : k < 4096 * t) : Nat.ble (4096 * t) k = false := by rw [Bool.eq_false_iff]; intro z; have := Nat.ble_eq.mp z; omega
theorem E6t {t k : Nat} (h : 4096 * t ≤ k) : E6 t 46 k = true := ble_t h
theorem E2t {t k : Nat} (h : 4096 * t ≤ k) : E2 t 42 k = true := ble_t h
theorem E1t {t k : Nat} (h : 4096 * t ≤ k) : E1 t 41 k = true := ble_t h
theorem E1u {t k : Nat} (h : 4096 * t ≤ k) : E1 t 42 k = true := ble_t h
section
variable {h h' : xh_H} {sv t : Nat} {fr : List Nat} {r : List vF}
theorem dE6 (s4 : sv < 4096) (ht : fr.length = t) (d : dfr h sv fr r) (g : fx (E6 t) fN h h') : dfr h' sv fr r := dfr_5 s4 (fun _ _ => fx_i g rfl) (fun _ _ => fx_i g rfl) (fun _ hk' => fx_i g (ble_n (by omega))) (fun _ _ => fx_i g rfl) (fun _ _ => fx_i g rfl) d
theorem dE2 (s4 : sv < 4096) (ht : fr.length = t) (d : dfr h sv fr r) (g : fx (E2 t) fN h h') : dfr h' sv fr r := dfr_5 s4 (fun _ _ => fx_i g rfl) (fun _ hk' => fx_i g (ble_n (by omega))) (fun _ _ => fx_i g rfl) (fun _ _ => fx_i g rfl) (fun _ _ => fx_i g rfl) d
theorem dE1 (s4 : sv < 4096) (ht : fr.length = t) (d : dfr h sv fr r) (g : fx (E1 t) fN h h') : dfr h' sv fr r := dfr_5 s4 (fun _ hk' => fx_i g (ble_n (by omega))) (fun _ hk' => fx_i g (ble_n (by omega))) (fun _ _ => fx_i g rfl) (fun _ _ => fx_i g rfl) (fun _ _ => fx_i g rfl) d
theorem dE5 (s4 : sv < 4096) (d : dfr h sv fr r) (g : fx E5 fN h h') : dfr h' sv fr r := dfr_5 s4 (fun _ _ => fx_i g rfl) (fun _ _ => fx_i g rfl) (fun _ _ => fx_i g rfl) (fun _ _ => fx_i g rfl) (fun _ _ => fx_i g rfl) d
theorem dfr_48t {x : Int32} (s4 : sv < 4096) (ht : fr.length = t) (d : dfr h sv fr r) : dfr (xh_ui h 48 t x) sv fr r := dfr_5 s4 (fun _ _ => gx_o (by decide)) (fun _ _ => gx_o (by decide)) (fun _ _ => gx_o (by decide)) (fun _ hk' => gx_k (by omega)) (fun _ _ => gx_o (by decide)) d
end
section
variable {a b : Bool} {x y w : Int32}
theorem b_n1 (h : xe_c .eq (bl a) 0 = true) : x = (if a = true then x + w else x) := by cases a with
  | false => rfl
  | true => exact absurd h (by decide)
theorem b_n2 (h : xe_c .eq (bl a) 0 = false) : x + w = (if a = true then x + w else x) := by cases a with
  | false => exact absurd h (by decide)
  | true => rfl
theorem xge_n {a b : Int32} : xe_c .ge a b = !(xe_c .lt a b) := by
  show decide (b ≤ a) = !decide (a < b)
  have h : (b ≤ a) ↔ ¬ (a < b) := Int32.not_lt.symm
  by_cases z : a < b
  · rw [decide_eq_true z, decide_eq_false (fun y => h.mp y z)]; rfl
  · rw [decide_eq_false z, decide_eq_true (h.mpr z)]; rfl
theorem b_g1 (h : xe_c .lt x y = true) : Int32.ofInt 0 = bl (xe_c .ge x y) := by rw [show xe_c .ge x y = !(xe_c .lt x y) from xge_n, h]; rfl
theorem b_g2 (h : xe_c .lt x y = false) : Int32.ofInt 1 = bl (xe_c .ge x y) := by rw [show xe_c .ge x y = !(xe_c .lt x y) from xge_n, h]; rfl
theorem b_a1 (h : xe_c .eq (bl a) 0 = true) : Int32.ofInt 0 = bl (a && b) := by cases a with
  | false => rfl
  | true => exact absurd h (by decide)
theorem b_a2 (h : xe_c .eq (bl a) 0 = false) (h' : xe_c .eq (bl b) 0 = true) : Int32.ofInt 0 = bl (a && b) := by cases b with
  | false => cases a <;> rfl
  | true => exact absurd h' (by decide)
theorem b_a3 (h : xe_c .eq (bl a) 0 = false) (h' : xe_c .eq (bl b) 0 = false) : Int32.ofInt 1 = bl (a && b) := by cases a with
  | false => exact absurd h (by decide)
  | true => cases b with
    | false => exact absurd h' (by decide)
    | true => rfl
theorem b_o1 (h : xe_c .ne (bl a) 0 = true) : Int32.ofInt 1 = bl (a || b) := by cases a with
  | false => exact absurd h (by decide)
  | true => rfl
theorem b_o2 (h : xe_c .ne (bl a) 0 = false) (h' : xe_c .eq (bl b) 0 = true) : Int32.ofInt 0 = bl (a || b) := by cases a with
  | true => exact absurd h (by decide)
  | false => cases b with
    | true => exact absurd h' (by decide)
    | false => rfl
theorem b_o3 (h : xe_c .ne (bl a) 0 = false) (h' : xe_c .eq (bl b) 0 = false) : Int32.ofInt 1 = bl (a || b) := by cases a with
  | true => exact absurd h (by decide)
  | false => cases b with
    | true => rfl
    | false => exact absurd h' (by decide)
end
set_option maxRecDepth 100000 in
set_option maxHeartbeats 4000000 in
theorem eld_24 {p o aw sv t : Nat} {fs : List Nat} {h0 hb : xh_H} {one : Bool} {su w : Int32} {Q : Option Value → xh_H → Prop} (s4 : sv < 4096) (et : fs.length - 1 = t) (t12 : t ≤ 12) (b45 : xg 0 hb.2.1 45 sv = bl one) (b48 : xg 0 hb.2.1 48 t = w) (K : ∀ (f : Nat) (x : Int32) (h : xh_H), a_rq a_tb h → GI h0 h T n mem nn NW p o fs aw → fx (E6 t) fN hb h → xg 0 h.2.1 46 (4096 * t + sv) = (if one = true then su + w else su) → xq f xi_X10_end_ xmi_X10_end_ 66 [(0, .ref 39), (1, .int (nI (4096 * t))), (2, .int x)] [] h Q) : ∀ (f i : Nat) (h : xh_H), a_rq a_tb h → GI h0 h T n mem nn NW p o fs aw → fx (E6 t) fN hb h → i ≤ 4096 → xg 0 h.2.1 46 (4096 * t + sv) = (if sv < i then (if one = true then su + w else su) else su) → xq f xi_X10_end_ xmi_X10_end_ 24 [(0, .ref 39), (1, .int (nI (4096 * t))), (2, .int (nI i))] [] h Q := by
  intro f
  induction f with
  | zero => intros; exact xq_0
  | succ f ih =>
    intro i h hq gi ge i6 w46
    have e28 : xg 0 h.2.1 39 28 = nI t := by rw [← et]; exact gi.2.1.2.2.2.2.2.2.2.1
    cases c1 : xe_c .ge (nI i) 4096 with
    | true =>
      have z1 : i ≥ 4096 := nq_get (a := i) (b := 4096) (by omega) (by omega) c1
      refine xq_m 66 [0, 1, 2] [(0, .ref 39), (1, .int (nI (4096 * t))), (2, .int (nI i))] [] h [true] 5 hq rfl ⟨c1, trivial⟩ (fun hq => ?_)
      exact K f _ _ hq gi ge (lp_1 w46 (by omega))
    | false =>
      have z1 : i < 4096 := nq_gef (a := i) (b := 4096) (by omega) (by omega) c1
      cases c2 : xe_c .eq (xg 0 h.2.1 45 i) 0 with
      | true =>
        refine xq_m 24 [0, 1, 2] [(0, .ref 39), (1, .int (nI (4096 * t))), (2, .int ((nI i) + Int32.ofInt 1))] [] h [false, true] 12 hq rfl ⟨c1, (show xe_c .eq (xg 0 h.2.1 45 ((nI i).toNatClampNeg)) 0 = true by rw [show (xg 0 h.2.1 45 ((nI i).toNatClampNeg)) = xg 0 h.2.1 45 i from (by rw [show ((nI i).toNatClampNeg) = i from nI_clamp (by omega)])]; exact c2), trivial⟩ (fun hq => ?_)
        rw [show ((nI i) + Int32.ofInt 1) = nI (i + 1) from nI_1 _]
        exact ih (i + 1) _ hq (GI_f gi (fx_0)) (ge) (by omega) (lp_n w46 (fun e => by have c := c2; rw [e, show xg 0 h.2.1 45 sv = bl one from (fx_i ge rfl).trans b45] at c; exact b_n1 c))
      | false =>
        refine xq_m 24 [0, 1, 2] [(0, .ref 39), (1, .int (nI (4096 * t))), (2, .int ((nI i) + Int32.ofInt 1))] [] (xh_ui h 46 (((nI (4096 * t)) + (nI i)).toNatClampNeg) ((xg 0 h.2.1 46 (((nI (4096 * t)) + (nI i)).toNatClampNeg)) + (xg 0 h.2.1 48 ((xg 0 h.2.1 39 28).toNatClampNeg)))) [false, false] 26 hq rfl ⟨c1, (show xe_c .eq (xg 0 h.2.1 45 ((nI i).toNatClampNeg)) 0 = false by rw [show (xg 0 h.2.1 45 ((nI i).toNatClampNeg)) = xg 0 h.2.1 45 i from (by rw [show ((nI i).toNatClampNeg) = i from nI_clamp (by omega)])]; exact c2), trivial⟩ (fun _ => ?_)
        rw [show (xg 0 h.2.1 46 (((nI (4096 * t)) + (nI i)).toNatClampNeg)) = xg 0 h.2.1 46 (4096 * t + i) from (by rw [show ((nI (4096 * t)) + (nI i)) = nI (4096 * t + i) from nI_add _ _, show ((nI (4096 * t + i)).toNatClampNeg) = (4096 * t + i) from nI_clamp (by omega)])]
        rw [show (xg 0 h.2.1 48 ((xg 0 h.2.1 39 28).toNatClampNeg)) = xg 0 h.2.1 48 t from (by rw [show (xg 0 h.2.1 39 28) = (nI t) from e28, show ((nI t).toNatClampNeg) = t from nI_clamp (by omega)])]
        rw [show ((nI (4096 * t)) + (nI i)) = nI (4096 * t + i) from nI_add _ _]
        rw [show ((nI (4096 * t + i)).toNatClampNeg) = (4096 * t + i) from nI_clamp (by omega)]
        rw [show ((nI i) + Int32.ofInt 1) = nI (i + 1) from nI_1 _]
        have hq : a_rq a_tb (xh_ui h 46 (4096 * t + i) ((xg 0 h.2.1 46 (4096 * t + i)) + (xg 0 h.2.1 48 t))) := a_rq_ui hq
        exact ih (i + 1) _ hq (GI_f gi (fx_ui (fx_0) rfl)) (fx_ui (ge) (E6t (by omega))) (by omega) (lp_w (w46) (fun e => by have c := c2; rw [e, show xg 0 h.2.1 45 sv = bl one from (fx_i ge rfl).trans b45] at c; rw [e, w46, if_neg (by omega), show xg 0 h.2.1 48 t = w from (fx_i ge rfl).trans b48]; exact b_n2 c))
set_option maxRecDepth 100000 in
set_option maxHeartbeats 4000000 in
theorem eld_94 {p o aw sv t : Nat} {fs : List Nat} {h0 hb : xh_H} {one : Bool} {nd S : Int32} {Q : Option Value → xh_H → Prop} (s4 : sv < 4096) (et : fs.length - 1 = t) (t12 : t ≤ 12) (b46 : xg 0 hb.2.1 46 (4096 * t + sv) = S) (b49 : xg 0 hb.2.1 49 t = nd) (K : ∀ (f : Nat) (x : Int32) (h : xh_H), a_rq a_tb h → GI h0 h T n mem nn NW p o fs aw → fx E5 fN hb h → xg 0 h.2.1 45 sv = bl (xe_c .ge S nd) → xq f xi_X10_end_ xmi_X10_end_ 138 [(0, .ref 39), (1, .int (nI (4096 * t))), (2, .int x)] [] h Q) : ∀ (f i : Nat) (h : xh_H), a_rq a_tb h → GI h0 h T n mem nn NW p o fs aw → fx E5 fN hb h → i ≤ 4096 → xg 0 h.2.1 45 sv = (if sv < i then bl (xe_c .ge S nd) else bl one) → xq f xi_X10_end_ xmi_X10_end_ 94 [(0, .ref 39), (1, .int (nI (4096 * t))), (2, .int (nI i))] [] h Q := by
  intro f
  induction f with
  | zero => intros; exact xq_0
  | succ f ih =>
    intro i h hq gi ge i6 w45
    have e28 : xg 0 h.2.1 39 28 = nI t := by rw [← et]; exact gi.2.1.2.2.2.2.2.2.2.1
    cases c1 : xe_c .ge (nI i) 4096 with
    | true =>
      have z1 : i ≥ 4096 := nq_get (a := i) (b := 4096) (by omega) (by omega) c1
      refine xq_m 138 [0, 1, 2] [(0, .ref 39), (1, .int (nI (4096 * t))), (2, .int (nI i))] [] h [true] 5 hq rfl ⟨c1, trivial⟩ (fun hq => ?_)
      exact K f _ _ hq gi ge (lp_1 w45 (by omega))
    | false =>
      have z1 : i < 4096 := nq_gef (a := i) (b := 4096) (by omega) (by omega) c1
      cases c2 : xe_c .lt (xg 0 h.2.1 46 (4096 * t + i)) (xg 0 h.2.1 49 t) with
      | true =>
        refine xq_m 94 [0, 1, 2] [(0, .ref 39), (1, .int (nI (4096 * t))), (2, .int ((nI i) + Int32.ofInt 1))] [] (xh_ui h 45 ((nI i).toNatClampNeg) (vp_nar .boolean (Int32.ofInt 0))) [false, true] 24 hq rfl ⟨c1, (show xe_c .lt (xg 0 h.2.1 46 (((nI (4096 * t)) + (nI i)).toNatClampNeg)) (xg 0 h.2.1 49 ((xg 0 h.2.1 39 28).toNatClampNeg)) = true by rw [show (xg 0 h.2.1 46 (((nI (4096 * t)) + (nI i)).toNatClampNeg)) = xg 0 h.2.1 46 (4096 * t + i) from (by rw [show ((nI (4096 * t)) + (nI i)) = nI (4096 * t + i) from nI_add _ _, show ((nI (4096 * t + i)).toNatClampNeg) = (4096 * t + i) from nI_clamp (by omega)]), show (xg 0 h.2.1 49 ((xg 0 h.2.1 39 28).toNatClampNeg)) = xg 0 h.2.1 49 t from (by rw [show (xg 0 h.2.1 39 28) = (nI t) from e28, show ((nI t).toNatClampNeg) = t from nI_clamp (by omega)])]; exact c2), trivial⟩ (fun _ => ?_)
        rw [show (vp_nar .boolean (Int32.ofInt 0)) = Int32.ofInt 0 from rfl]
        rw [show ((nI i).toNatClampNeg) = i from nI_clamp (by omega)]
        rw [show ((nI i) + Int32.ofInt 1) = nI (i + 1) from nI_1 _]
        have hq : a_rq a_tb (xh_ui h 45 i (Int32.ofInt 0)) := a_rq_ui hq
        exact ih (i + 1) _ hq (GI_f gi (fx_ui (fx_0) rfl)) (fx_ui (ge) rfl) (by omega) (lp_w0 (w45) (fun e => by have c := c2; rw [e, show xg 0 h.2.1 46 (4096 * t + sv) = S from (fx_i ge rfl).trans b46, show xg 0 h.2.1 49 t = nd from (fx_i ge rfl).trans b49] at c; exact b_g1 c))
      | false =>
        refine xq_m 94 [0, 1, 2] [(0, .ref 39), (1, .int (nI (4096 * t))), (2, .int ((nI i) + Int32.ofInt 1))] [] (xh_ui h 45 ((nI i).toNatClampNeg) (vp_nar .boolean (Int32.ofInt 1))) [false, false] 25 hq rfl ⟨c1, (show xe_c .lt (xg 0 h.2.1 46 (((nI (4096 * t)) + (nI i)).toNatClampNeg)) (xg 0 h.2.1 49 ((xg 0 h.2.1 39 28).toNatClampNeg)) = false by rw [show (xg 0 h.2.1 46 (((nI (4096 * t)) + (nI i)).toNatClampNeg)) = xg 0 h.2.1 46 (4096 * t + i) from (by rw [show ((nI (4096 * t)) + (nI i)) = nI (4096 * t + i) from nI_add _ _, show ((nI (4096 * t + i)).toNatClampNeg) = (4096 * t + i) from nI_clamp (by omega)]), show (xg 0 h.2.1 49 ((xg 0 h.2.1 39 28).toNatClampNeg)) = xg 0 h.2.1 49 t from (by rw [show (xg 0 h.2.1 39 28) = (nI t) from e28, show ((nI t).toNatClampNeg) = t from nI_clamp (by omega)])]; exact c2), trivial⟩ (fun _ => ?_)
        rw [show (vp_nar .boolean (Int32.ofInt 1)) = Int32.ofInt 1 from rfl]
        rw [show ((nI i).toNatClampNeg) = i from nI_clamp (by omega)]
        rw [show ((nI i) + Int32.ofInt 1) = nI (i + 1) from nI_1 _]
        have hq : a_rq a_tb (xh_ui h 45 i (Int32.ofInt 1)) := a_rq_ui hq
        exact ih (i + 1) _ hq (GI_f gi (fx_ui (fx_0) rfl)) (fx_ui (ge) rfl) (by omega) (lp_w0 (w45) (fun e => by have c := c2; rw [e, show xg 0 h.2.1 46 (4096 * t + sv) = S from (fx_i ge rfl).trans b46, show xg 0 h.2.1 49 t = nd from (fx_i ge rfl).trans b49] at c; exact b_g2 c))
set_option maxRecDepth 100000 in
set_option maxHeartbeats 4000000 in
theorem eld_156 {p o aw sv t : Nat} {fs : List Nat} {h0 hb : xh_H} {one av : Bool} {Q : Option Value → xh_H → Prop} (s4 : sv < 4096) (et : fs.length - 1 = t) (t12 : t ≤ 12) (b45 : xg 0 hb.2.1 45 sv = bl one) (K : ∀ (f : Nat) (x : Int32) (h : xh_H), a_rq a_tb h → GI h0 h T n mem nn NW p o fs aw → fx (E2 t) fN hb h → xg 0 h.2.1 42 (4096 * t + sv) = bl (av && one) → xq f xi_X10_end_ xmi_X10_end_ 202 [(0, .ref 39), (1, .int (nI (4096 * t))), (2, .int x)] [] h Q) : ∀ (f i : Nat) (h : xh_H), a_rq a_tb h → GI h0 h T n mem nn NW p o fs aw → fx (E2 t) fN hb h → i ≤ 4096 → xg 0 h.2.1 42 (4096 * t + sv) = (if sv < i then bl (av && one) else bl av) → xq f xi_X10_end_ xmi_X10_end_ 156 [(0, .ref 39), (1, .int (nI (4096 * t))), (2, .int (nI i))] [] h Q := by
  intro f
  induction f with
  | zero => intros; exact xq_0
  | succ f ih =>
    intro i h hq gi ge i6 w42
    have e28 : xg 0 h.2.1 39 28 = nI t := by rw [← et]; exact gi.2.1.2.2.2.2.2.2.2.1
    cases c1 : xe_c .ge (nI i) 4096 with
    | true =>
      have z1 : i ≥ 4096 := nq_get (a := i) (b := 4096) (by omega) (by omega) c1
      refine xq_m 202 [0, 1, 2] [(0, .ref 39), (1, .int (nI (4096 * t))), (2, .int (nI i))] [] h [true] 5 hq rfl ⟨c1, trivial⟩ (fun hq => ?_)
      exact K f _ _ hq gi ge (lp_1 w42 (by omega))
    | false =>
      have z1 : i < 4096 := nq_gef (a := i) (b := 4096) (by omega) (by omega) c1
      cases c2 : xe_c .eq (xg 0 h.2.1 42 (4096 * t + i)) 0 with
      | true =>
        refine xq_m 156 [0, 1, 2] [(0, .ref 39), (1, .int (nI (4096 * t))), (2, .int ((nI i) + Int32.ofInt 1))] [] (xh_ui h 42 (((nI (4096 * t)) + (nI i)).toNatClampNeg) (vp_nar .boolean (Int32.ofInt 0))) [false, true] 21 hq rfl ⟨c1, (show xe_c .eq (xg 0 h.2.1 42 (((nI (4096 * t)) + (nI i)).toNatClampNeg)) 0 = true by rw [show (xg 0 h.2.1 42 (((nI (4096 * t)) + (nI i)).toNatClampNeg)) = xg 0 h.2.1 42 (4096 * t + i) from (by rw [show ((nI (4096 * t)) + (nI i)) = nI (4096 * t + i) from nI_add _ _, show ((nI (4096 * t + i)).toNatClampNeg) = (4096 * t + i) from nI_clamp (by omega)])]; exact c2), trivial⟩ (fun _ => ?_)
        rw [show ((nI (4096 * t)) + (nI i)) = nI (4096 * t + i) from nI_add _ _]
        rw [show (vp_nar .boolean (Int32.ofInt 0)) = Int32.ofInt 0 from rfl]
        rw [show ((nI (4096 * t + i)).toNatClampNeg) = (4096 * t + i) from nI_clamp (by omega)]
        rw [show ((nI i) + Int32.ofInt 1) = nI (i + 1) from nI_1 _]
        have hq : a_rq a_tb (xh_ui h 42 (4096 * t + i) (Int32.ofInt 0)) := a_rq_ui hq
        exact ih (i + 1) _ hq (GI_f gi (fx_ui (fx_0) rfl)) (fx_ui (ge) (E2t (by omega))) (by omega) (lp_w (w42) (fun e => by have c := c2; rw [e, w42, if_neg (by omega)] at c; exact b_a1 c))
      | false =>
        cases c3 : xe_c .eq (xg 0 h.2.1 45 i) 0 with
        | true =>
          refine xq_m 156 [0, 1, 2] [(0, .ref 39), (1, .int (nI (4096 * t))), (2, .int ((nI i) + Int32.ofInt 1))] [] (xh_ui h 42 (((nI (4096 * t)) + (nI i)).toNatClampNeg) (vp_nar .boolean (Int32.ofInt 0))) [false, false, true] 26 hq rfl ⟨c1, (show xe_c .eq (xg 0 h.2.1 42 (((nI (4096 * t)) + (nI i)).toNatClampNeg)) 0 = false by rw [show (xg 0 h.2.1 42 (((nI (4096 * t)) + (nI i)).toNatClampNeg)) = xg 0 h.2.1 42 (4096 * t + i) from (by rw [show ((nI (4096 * t)) + (nI i)) = nI (4096 * t + i) from nI_add _ _, show ((nI (4096 * t + i)).toNatClampNeg) = (4096 * t + i) from nI_clamp (by omega)])]; exact c2), (show xe_c .eq (xg 0 h.2.1 45 ((nI i).toNatClampNeg)) 0 = true by rw [show (xg 0 h.2.1 45 ((nI i).toNatClampNeg)) = xg 0 h.2.1 45 i from (by rw [show ((nI i).toNatClampNeg) = i from nI_clamp (by omega)])]; exact c3), trivial⟩ (fun _ => ?_)
          rw [show ((nI (4096 * t)) + (nI i)) = nI (4096 * t + i) from nI_add _ _]
          rw [show (vp_nar .boolean (Int32.ofInt 0)) = Int32.ofInt 0 from rfl]
          rw [show ((nI (4096 * t + i)).toNatClampNeg) = (4096 * t + i) from nI_clamp (by omega)]
          rw [show ((nI i) + Int32.ofInt 1) = nI (i + 1) from nI_1 _]
          have hq : a_rq a_tb (xh_ui h 42 (4096 * t + i) (Int32.ofInt 0)) := a_rq_ui hq
          exact ih (i + 1) _ hq (GI_f gi (fx_ui (fx_0) rfl)) (fx_ui (ge) (E2t (by omega))) (by omega) (lp_w (w42) (fun e => by have c := c2; rw [e, w42, if_neg (by omega)] at c; have c' := c3; rw [e, show xg 0 h.2.1 45 sv = bl one from (fx_i ge rfl).trans b45] at c'; exact b_a2 c c'))
        | false =>
          refine xq_m 156 [0, 1, 2] [(0, .ref 39), (1, .int (nI (4096 * t))), (2, .int ((nI i) + Int32.ofInt 1))] [] (xh_ui h 42 (((nI (4096 * t)) + (nI i)).toNatClampNeg) (vp_nar .boolean (Int32.ofInt 1))) [false, false, false] 27 hq rfl ⟨c1, (show xe_c .eq (xg 0 h.2.1 42 (((nI (4096 * t)) + (nI i)).toNatClampNeg)) 0 = false by rw [show (xg 0 h.2.1 42 (((nI (4096 * t)) + (nI i)).toNatClampNeg)) = xg 0 h.2.1 42 (4096 * t + i) from (by rw [show ((nI (4096 * t)) + (nI i)) = nI (4096 * t + i) from nI_add _ _, show ((nI (4096 * t + i)).toNatClampNeg) = (4096 * t + i) from nI_clamp (by omega)])]; exact c2), (show xe_c .eq (xg 0 h.2.1 45 ((nI i).toNatClampNeg)) 0 = false by rw [show (xg 0 h.2.1 45 ((nI i).toNatClampNeg)) = xg 0 h.2.1 45 i from (by rw [show ((nI i).toNatClampNeg) = i from nI_clamp (by omega)])]; exact c3), trivial⟩ (fun _ => ?_)
          rw [show ((nI (4096 * t)) + (nI i)) = nI (4096 * t + i) from nI_add _ _]
          rw [show (vp_nar .boolean (Int32.ofInt 1)) = Int32.ofInt 1 from rfl]
          rw [show ((nI (4096 * t + i)).toNatClampNeg) = (4096 * t + i) from nI_clamp (by omega)]
          rw [show ((nI i) + Int32.ofInt 1) = nI (i + 1) from nI_1 _]
          have hq : a_rq a_tb (xh_ui h 42 (4096 * t + i) (Int32.ofInt 1)) := a_rq_ui hq
          exact ih (i + 1) _ hq (GI_f gi (fx_ui (fx_0) rfl)) (fx_ui (ge) (E2t (by omega))) (by omega) (lp_w (w42) (fun e => by have c := c2; rw [e, w42, if_neg (by omega)] at c; have c' := c3; rw [e, show xg 0 h.2.1 45 sv = bl one from (fx_i ge rfl).trans b45] at c'; exact b_a3 c c'))
set_option maxRecDepth 100000 in
set_option maxHeartbeats 4000000 in
theorem eld_222 {p o aw sv t : Nat} {fs : List Nat} {h0 hb : xh_H} {ov av : Bool} {Q : Option Value → xh_H → Prop} (s4 : sv < 4096) (et : fs.length - 1 = t) (t12 : t ≤ 12) (K : ∀ (f : Nat) (x : Int32) (h : xh_H), a_rq a_tb h → GI h0 h T n mem nn NW p o fs aw → fx (E1 t) fN hb h → xg 0 h.2.1 41 (4096 * t + sv) = bl (ov || av) → xg 0 h.2.1 42 (4096 * t + sv) = bl true → xq f xi_X10_end_ xmi_X10_end_ 279 [(0, .ref 39), (1, .int (nI (4096 * t))), (2, .int x)] [] h Q) : ∀ (f i : Nat) (h : xh_H), a_rq a_tb h → GI h0 h T n mem nn NW p o fs aw → fx (E1 t) fN hb h → i ≤ 4096 → xg 0 h.2.1 41 (4096 * t + sv) = (if sv < i then bl (ov || av) else bl ov) → xg 0 h.2.1 42 (4096 * t + sv) = (if sv < i then bl true else bl av) → xq f xi_X10_end_ xmi_X10_end_ 222 [(0, .ref 39), (1, .int (nI (4096 * t))), (2, .int (nI i))] [] h Q := by
  intro f
  induction f with
  | zero => intros; exact xq_0
  | succ f ih =>
    intro i h hq gi ge i6 w41 w42
    have e28 : xg 0 h.2.1 39 28 = nI t := by rw [← et]; exact gi.2.1.2.2.2.2.2.2.2.1
    cases c1 : xe_c .ge (nI i) 4096 with
    | true =>
      have z1 : i ≥ 4096 := nq_get (a := i) (b := 4096) (by omega) (by omega) c1
      refine xq_m 279 [0, 1, 2] [(0, .ref 39), (1, .int (nI (4096 * t))), (2, .int (nI i))] [] h [true] 5 hq rfl ⟨c1, trivial⟩ (fun hq => ?_)
      exact K f _ _ hq gi ge (lp_1 w41 (by omega)) (lp_1 w42 (by omega))
    | false =>
      have z1 : i < 4096 := nq_gef (a := i) (b := 4096) (by omega) (by omega) c1
      cases c2 : xe_c .ne (xg 0 h.2.1 41 (4096 * t + i)) 0 with
      | true =>
        refine xq_m 222 [0, 1, 2] [(0, .ref 39), (1, .int (nI (4096 * t))), (2, .int ((nI i) + Int32.ofInt 1))] [] (xh_ui (xh_ui h 41 (((nI (4096 * t)) + (nI i)).toNatClampNeg) (vp_nar .boolean (Int32.ofInt 1))) 42 (((nI (4096 * t)) + (nI i)).toNatClampNeg) (vp_nar .boolean (Int32.ofInt 1))) [false, true] 29 hq rfl ⟨c1, (show xe_c .ne (xg 0 h.2.1 41 (((nI (4096 * t)) + (nI i)).toNatClampNeg)) 0 = true by rw [show (xg 0 h.2.1 41 (((nI (4096 * t)) + (nI i)).toNatClampNeg)) = xg 0 h.2.1 41 (4096 * t + i) from (by rw [show ((nI (4096 * t)) + (nI i)) = nI (4096 * t + i) from nI_add _ _, show ((nI (4096 * t + i)).toNatClampNeg) = (4096 * t + i) from nI_clamp (by omega)])]; exact c2), trivial⟩ (fun _ => ?_)
        rw [show ((nI (4096 * t)) + (nI i)) = nI (4096 * t + i) from nI_add _ _]
        rw [show (vp_nar .boolean (Int32.ofInt 1)) = Int32.ofInt 1 from rfl]
        rw [show ((nI (4096 * t + i)).toNatClampNeg) = (4096 * t + i) from nI_clamp (by omega)]
        rw [show ((nI i) + Int32.ofInt 1) = nI (i + 1) from nI_1 _]
        have hq : a_rq a_tb (xh_ui (xh_ui h 41 (4096 * t + i) (Int32.ofInt 1)) 42 (4096 * t + i) (Int32.ofInt 1)) := a_rq_ui (a_rq_ui hq)
        exact ih (i + 1) _ hq (GI_f gi (fx_ui (fx_ui (fx_0) rfl) rfl)) (fx_ui (fx_ui (ge) (E1t (by omega))) (E1u (by omega))) (by omega) ((gx_o (by decide)).trans (lp_w (w41) (fun e => by have c := c2; rw [e, w41, if_neg (by omega)] at c; exact b_o1 c))) (lp_w (((gx_o (by decide)).trans w42)) (fun e => rfl))
      | false =>
        cases c3 : xe_c .eq (xg 0 h.2.1 42 (4096 * t + i)) 0 with
        | true =>
          refine xq_m 222 [0, 1, 2] [(0, .ref 39), (1, .int (nI (4096 * t))), (2, .int ((nI i) + Int32.ofInt 1))] [] (xh_ui (xh_ui h 41 (((nI (4096 * t)) + (nI i)).toNatClampNeg) (vp_nar .boolean (Int32.ofInt 0))) 42 (((nI (4096 * t)) + (nI i)).toNatClampNeg) (vp_nar .boolean (Int32.ofInt 1))) [false, false, true] 35 hq rfl ⟨c1, (show xe_c .ne (xg 0 h.2.1 41 (((nI (4096 * t)) + (nI i)).toNatClampNeg)) 0 = false by rw [show (xg 0 h.2.1 41 (((nI (4096 * t)) + (nI i)).toNatClampNeg)) = xg 0 h.2.1 41 (4096 * t + i) from (by rw [show ((nI (4096 * t)) + (nI i)) = nI (4096 * t + i) from nI_add _ _, show ((nI (4096 * t + i)).toNatClampNeg) = (4096 * t + i) from nI_clamp (by omega)])]; exact c2), (show xe_c .eq (xg 0 h.2.1 42 (((nI (4096 * t)) + (nI i)).toNatClampNeg)) 0 = true by rw [show (xg 0 h.2.1 42 (((nI (4096 * t)) + (nI i)).toNatClampNeg)) = xg 0 h.2.1 42 (4096 * t + i) from (by rw [show ((nI (4096 * t)) + (nI i)) = nI (4096 * t + i) from nI_add _ _, show ((nI (4096 * t + i)).toNatClampNeg) = (4096 * t + i) from nI_clamp (by omega)])]; exact c3), trivial⟩ (fun _ => ?_)
          rw [show ((nI (4096 * t)) + (nI i)) = nI (4096 * t + i) from nI_add _ _]
          rw [show (vp_nar .boolean (Int32.ofInt 0)) = Int32.ofInt 0 from rfl]
          rw [show (vp_nar .boolean (Int32.ofInt 1)) = Int32.ofInt 1 from rfl]
          rw [show ((nI (4096 * t + i)).toNatClampNeg) = (4096 * t + i) from nI_clamp (by omega)]
          rw [show ((nI i) + Int32.ofInt 1) = nI (i + 1) from nI_1 _]
          have hq : a_rq a_tb (xh_ui (xh_ui h 41 (4096 * t + i) (Int32.ofInt 0)) 42 (4096 * t + i) (Int32.ofInt 1)) := a_rq_ui (a_rq_ui hq)
          exact ih (i + 1) _ hq (GI_f gi (fx_ui (fx_ui (fx_0) rfl) rfl)) (fx_ui (fx_ui (ge) (E1t (by omega))) (E1u (by omega))) (by omega) ((gx_o (by decide)).trans (lp_w (w41) (fun e => by have c := c2; rw [e, w41, if_neg (by omega)] at c; have c' := c3; rw [e, w42, if_neg (by omega)] at c'; exact b_o2 c c'))) (lp_w (((gx_o (by decide)).trans w42)) (fun e => rfl))
        | false =>
          refine xq_m 222 [0, 1, 2] [(0, .ref 39), (1, .int (nI (4096 * t))), (2, .int ((nI i) + Int32.ofInt 1))] [] (xh_ui (xh_ui h 41 (((nI (4096 * t)) + (nI i)).toNatClampNeg) (vp_nar .boolean (Int32.ofInt 1))) 42 (((nI (4096 * t)) + (nI i)).toNatClampNeg) (vp_nar .boolean (Int32.ofInt 1))) [false, false, false] 36 hq rfl ⟨c1, (show xe_c .ne (xg 0 h.2.1 41 (((nI (4096 * t)) + (nI i)).toNatClampNeg)) 0 = false by rw [show (xg 0 h.2.1 41 (((nI (4096 * t)) + (nI i)).toNatClampNeg)) = xg 0 h.2.1 41 (4096 * t + i) from (by rw [show ((nI (4096 * t)) + (nI i)) = nI (4096 * t + i) from nI_add _ _, show ((nI (4096 * t + i)).toNatClampNeg) = (4096 * t + i) from nI_clamp (by omega)])]; exact c2), (show xe_c .eq (xg 0 h.2.1 42 (((nI (4096 * t)) + (nI i)).toNatClampNeg)) 0 = false by rw [show (xg 0 h.2.1 42 (((nI (4096 * t)) + (nI i)).toNatClampNeg)) = xg 0 h.2.1 42 (4096 * t + i) from (by rw [show ((nI (4096 * t)) + (nI i)) = nI (4096 * t + i) from nI_add _ _, show ((nI (4096 * t + i)).toNatClampNeg) = (4096 * t + i) from nI_clamp (by omega)])]; exact c3), trivial⟩ (fun _ => ?_)
          rw [show ((nI (4096 * t)) + (nI i)) = nI (4096 * t + i) from nI_add _ _]
          rw [show (vp_nar .boolean (Int32.ofInt 1)) = Int32.ofInt 1 from rfl]
          rw [show ((nI (4096 * t + i)).toNatClampNeg) = (4096 * t + i) from nI_clamp (by omega)]
          rw [show ((nI i) + Int32.ofInt 1) = nI (i + 1) from nI_1 _]
          have hq : a_rq a_tb (xh_ui (xh_ui h 41 (4096 * t + i) (Int32.ofInt 1)) 42 (4096 * t + i) (Int32.ofInt 1)) := a_rq_ui (a_rq_ui hq)
          exact ih (i + 1) _ hq (GI_f gi (fx_ui (fx_ui (fx_0) rfl) rfl)) (fx_ui (fx_ui (ge) (E1t (by omega))) (E1u (by omega))) (by omega) ((gx_o (by decide)).trans (lp_w (w41) (fun e => by have c := c2; rw [e, w41, if_neg (by omega)] at c; have c' := c3; rw [e, w42, if_neg (by omega)] at c'; exact b_o3 c c'))) (lp_w (((gx_o (by decide)).trans w42)) (fun e => rfl))
set_option maxRecDepth 100000 in
set_option maxHeartbeats 4000000 in
theorem eld_299 {p o aw sv t : Nat} {fs : List Nat} {h0 hb : xh_H} {one ov : Bool} {Q : Option Value → xh_H → Prop} (s4 : sv < 4096) (et : fs.length - 1 = t) (t12 : t ≤ 12) (b41 : xg 0 hb.2.1 41 (4096 * t + sv) = bl ov) (K : ∀ (f : Nat) (x : Int32) (h : xh_H), a_rq a_tb h → GI h0 h T n mem nn NW p o fs aw → fx E5 fN hb h → xg 0 h.2.1 45 sv = bl ov → xq f xi_X10_end_ xmi_X10_end_ 326 [(0, .ref 39), (1, .int (nI (4096 * t))), (2, .int x)] [] h Q) : ∀ (f i : Nat) (h : xh_H), a_rq a_tb h → GI h0 h T n mem nn NW p o fs aw → fx E5 fN hb h → i ≤ 4096 → xg 0 h.2.1 45 sv = (if sv < i then bl ov else bl one) → xq f xi_X10_end_ xmi_X10_end_ 299 [(0, .ref 39), (1, .int (nI (4096 * t))), (2, .int (nI i))] [] h Q := by
  intro f
  induction f with
  | zero => intros; exact xq_0
  | succ f ih =>
    intro i h hq gi ge i6 w45
    have e28 : xg 0 h.2.1 39 28 = nI t := by rw [← et]; exact gi.2.1.2.2.2.2.2.2.2.1
    cases c1 : xe_c .ge (nI i) 4096 with
    | true =>
      have z1 : i ≥ 4096 := nq_get (a := i) (b := 4096) (by omega) (by omega) c1
      refine xq_m 326 [0, 1, 2] [(0, .ref 39), (1, .int (nI (4096 * t))), (2, .int (nI i))] [] h [true] 5 hq rfl ⟨c1, trivial⟩ (fun hq => ?_)
      exact K f _ _ hq gi ge (lp_1 w45 (by omega))
    | false =>
      have z1 : i < 4096 := nq_gef (a := i) (b := 4096) (by omega) (by omega) c1
      refine xq_m 299 [0, 1, 2] [(0, .ref 39), (1, .int (nI (4096 * t))), (2, .int ((nI i) + Int32.ofInt 1))] [] (xh_ui h 45 ((nI i).toNatClampNeg) (vp_nar .boolean (xg 0 h.2.1 41 (((nI (4096 * t)) + (nI i)).toNatClampNeg)))) [false] 17 hq rfl ⟨c1, trivial⟩ (fun _ => ?_)
      rw [show (xg 0 h.2.1 41 (((nI (4096 * t)) + (nI i)).toNatClampNeg)) = xg 0 h.2.1 41 (4096 * t + i) from (by rw [show ((nI (4096 * t)) + (nI i)) = nI (4096 * t + i) from nI_add _ _, show ((nI (4096 * t + i)).toNatClampNeg) = (4096 * t + i) from nI_clamp (by omega)])]
      rw [show ((nI i).toNatClampNeg) = i from nI_clamp (by omega)]
      rw [show ((nI i) + Int32.ofInt 1) = nI (i + 1) from nI_1 _]
      have hq : a_rq a_tb (xh_ui h 45 i (vp_nar .boolean (xg 0 h.2.1 41 (4096 * t + i)))) := a_rq_ui hq
      exact ih (i + 1) _ hq (GI_f gi (fx_ui (fx_0) rfl)) (fx_ui (ge) rfl) (by omega) (lp_w0 (w45) (fun e => by rw [e, show xg 0 h.2.1 41 (4096 * t + sv) = bl ov from (fx_i ge rfl).trans b41]; exact bl_n))
set_option maxRecDepth 100000 in
set_option maxHeartbeats 4000000 in
theorem en_138d {f p o ty : Nat} {fs : List Nat} {h0 h : xh_H} {x : Int32} {sv t : Nat} {fr : List Nat} {ov av one y : Bool} {su w nd : Int32} {r : List vF} (s4 : sv < 4096) (hfs : fs = ty :: fr) (ht : fr.length = t) (dt : dfr h sv fr r) (hq : a_rq a_tb h) (gi : GI h0 h T n mem nn NW p o fs 0) (wf : wfs fs) (hty : fs.head? = some ty) (e47 : xg 0 h.2.1 47 (fs.length - 1) = nI ty) (ty2 : ty ≤ 2) (e2 : ty = 2) (b93 : tkk T n p = 93) (d45 : xg 0 h.2.1 45 sv = bl y) (yv : xe_c .ge (if one = true then su + w else su) nd = y) : xq f xi_X10_end_ xmi_X10_end_ 138 [(0, .ref 39), (1, .int (nI (4096 * t))), (2, .int x)] [] h (fun v h' => dQ h' sv (en T n p o fs) (ven T n p fs ((ov, av, su, w, nd) :: r) one)) := by
  have rr0 := gi.2.1
  have g0 := gi.1
  have hT : ∀ k, k < n → T k < 256 := fun k hk' => (rr0.1.2.2 k hk').1
  have rt := rr0.2.1
  have rb := (rkk_k (T := T) (n := n) (p := p)).1
  have kb := tkk_lt (T := T) (n := n) (p := p) hT
  have o120 := rr0.2.2.2.2.2.2.1
  have f1 := rr0.2.2.2.2.2.2.2.2.1
  have n16 := rr0.2.2.2.2.1.2.1
  have f13 := rr0.2.2.2.2.2.2.2.2.2.1
  have n6 := rr0.1.2.1
  have hh : ∀ j, fs.head? = some j ↔ ty = j := fun j => by rw [hty]; exact ⟨fun e => Option.some.inj e, fun e => by rw [e]⟩
  have et : fs.length - 1 = t := by rw [hfs, ← ht]; rfl
  have t12 : t ≤ 12 := by omega
  have fl2 : ty ≠ 0 → 2 ≤ fs.length := fun e => by
    have w := wfs_t wf (fun e1 => e ((hh 0).mp e1))
    have w2 := wfs_n w
    cases hf : fs with
    | nil => rw [hf] at f1; exact absurd f1 (by decide)
    | cons a b =>
      cases b with
      | nil => rw [hf] at w2; exact absurd rfl w2
      | cons c d => simp only [List.length_cons]; omega
  refine xq_n 149 [0, 1, 2] [(0, .ref 39), (1, .int (nI (4096 * t))), (2, .int x)] [.ref 39] (xh_ui h 39 28 ((xg 0 h.2.1 39 28) - (Int32.ofInt 1))) [] 9 hq rfl trivial (fun _ => ?_)
  rw [show (xg 0 h.2.1 39 28) = (nI t) from (by rw [← et]; exact rr0.2.2.2.2.2.2.2.1)]
  rw [show ((nI t) - (Int32.ofInt 1)) = nI (t - 1) from nI_sub (b := 1) (by omega)]
  have hq : a_rq a_tb (xh_ui h 39 28 (nI (t - 1))) := a_rq_ui hq
  have nz1 : tkk T n p ≠ 0 := by omega
  have le1 := tke_le nz1
  refine xq_run hq rfl rfl (go_q hq (rtp_f (S := rT) (L := gL) rr0.1 (fx_ui (fx_0) rfl) rfl (fun _ => rfl)) ((gx_k (by decide)).trans (rt.2.2.2.2.2 (by omega))) le1) ?_
  rintro v1 h1 ⟨rfl, g1, t1⟩
  have hq := fx_q g1 hq
  have rb1 := (rkk_k (T := T) (n := n) (p := tke T n p)).1
  have kb1 := tkk_lt (T := T) (n := n) (p := tke T n p) hT
  refine xq_n 153 [] [] [.int (Int32.ofInt 1)] h1 [] 3 hq rfl trivial (fun hq => ?_)
  have er : en T n p o fs = .inl (0, tke T n p, o, fs.tail) := by
    unfold en
    rw [if_pos ((hh 2).mpr e2)]
    repeat (first | rw [if_pos (by omega)] | rw [if_neg (by omega)])
    try rfl
  have ev : ven T n p fs ((ov, av, su, w, nd) :: r) one = (r, y) := by
    rw [ven_c]
    rw [if_pos ((hh 2).mpr e2)]
    rw [if_pos (show tkk T n p = 93 by omega), yv]
    repeat (first | rw [if_pos (by omega)] | rw [if_neg (by omega)])
    try rfl
  rw [ev]
  exact xq_ret rfl rfl rfl (dQ_l er (by rw [hfs]; exact dfr_go s4 (dfr_39 s4 (dt)) g1) ((fx_i g1 rfl).trans ((gx_o (by decide)).trans (d45))))
set_option maxRecDepth 100000 in
set_option maxHeartbeats 4000000 in
theorem en_66d {f p o ty : Nat} {fs : List Nat} {h0 h : xh_H} {x : Int32} {sv t : Nat} {fr : List Nat} {ov av one : Bool} {su w nd S : Int32} {r : List vF} (s4 : sv < 4096) (hfs : fs = ty :: fr) (ht : fr.length = t) (dt : dfr h sv fr r) (hq : a_rq a_tb h) (gi : GI h0 h T n mem nn NW p o fs 0) (wf : wfs fs) (hty : fs.head? = some ty) (e47 : xg 0 h.2.1 47 (fs.length - 1) = nI ty) (ty2 : ty ≤ 2) (e2 : ty = 2) (d45 : xg 0 h.2.1 45 sv = bl one) (d46 : xg 0 h.2.1 46 (4096 * t + sv) = S) (d49 : xg 0 h.2.1 49 t = nd) (Sv : S = if one = true then su + w else su) : xq f xi_X10_end_ xmi_X10_end_ 66 [(0, .ref 39), (1, .int (nI (4096 * t))), (2, .int x)] [] h (fun v h' => dQ h' sv (en T n p o fs) (ven T n p fs ((ov, av, su, w, nd) :: r) one)) := by
  have rr0 := gi.2.1
  have g0 := gi.1
  have hT : ∀ k, k < n → T k < 256 := fun k hk' => (rr0.1.2.2 k hk').1
  have rt := rr0.2.1
  have rb := (rkk_k (T := T) (n := n) (p := p)).1
  have kb := tkk_lt (T := T) (n := n) (p := p) hT
  have o120 := rr0.2.2.2.2.2.2.1
  have f1 := rr0.2.2.2.2.2.2.2.2.1
  have n16 := rr0.2.2.2.2.1.2.1
  have f13 := rr0.2.2.2.2.2.2.2.2.2.1
  have n6 := rr0.1.2.1
  have hh : ∀ j, fs.head? = some j ↔ ty = j := fun j => by rw [hty]; exact ⟨fun e => Option.some.inj e, fun e => by rw [e]⟩
  have et : fs.length - 1 = t := by rw [hfs, ← ht]; rfl
  have t12 : t ≤ 12 := by omega
  have fl2 : ty ≠ 0 → 2 ≤ fs.length := fun e => by
    have w := wfs_t wf (fun e1 => e ((hh 0).mp e1))
    have w2 := wfs_n w
    cases hf : fs with
    | nil => rw [hf] at f1; exact absurd f1 (by decide)
    | cons a b =>
      cases b with
      | nil => rw [hf] at w2; exact absurd rfl w2
      | cons c d => simp only [List.length_cons]; omega
  have e47t : ∀ {h' : xh_H}, GI h0 h' T n mem nn NW p o fs 0 → xg 0 h'.2.1 47 (fs.length - 1) = nI ty := fun {h'} g => by
    have w := g.2.1.2.2.2.2.2.2.2.2.2.2.1
    cases hf : fs with
    | nil => rw [hf] at hty; cases hty
    | cons a b =>
      rw [hf] at w hty
      have hty : a = ty := Option.some.inj hty
      rw [← hty]
      exact w.1
  refine xq_n 79 [0, 1, 2] [(0, .ref 39), (1, .int (nI (4096 * t))), (2, .int x)] [.int 93, .ref 39] (xh_ui h 48 ((xg 0 h.2.1 39 28).toNatClampNeg) (Int32.ofInt 1)) [] 10 hq rfl trivial (fun _ => ?_)
  rw [show (xg 0 h.2.1 39 28) = (nI t) from (by rw [← et]; exact rr0.2.2.2.2.2.2.2.1)]
  rw [show ((nI t).toNatClampNeg) = t from nI_clamp (by omega)]
  have hq : a_rq a_tb (xh_ui h 48 t (Int32.ofInt 1)) := a_rq_ui hq
  refine xq_run hq rfl rfl (rsg_q (c := 93) (by decide) (by decide) hT (rtk_ui (rt) rfl) hq) ?_
  rintro v1 h_v1 ⟨rfl, rfl⟩
  cases b2 : (decide (tkk T n p = 93)) with
  | true =>
    have db2 := of_decide_eq_true b2
    refine xq_n 94 [0, 1, 2] [(0, .ref 39), (1, .int (nI (4096 * t))), (2, .int (Int32.ofInt 0))] [] (xh_ui h 48 t (Int32.ofInt 1)) [true] 5 hq rfl ⟨rfl, trivial⟩ (fun hq => ?_)
    exact eld_94 (hb := (xh_ui h 48 t (Int32.ofInt 1))) s4 et t12 ((gx_o (by decide)).trans (d46)) ((gx_o (by decide)).trans (d49)) (fun f x h hq gi ge w45 => en_138d s4 hfs ht (dE5 s4 (dfr_48t s4 ht (dt)) ge) hq gi wf hty (e47t gi) ty2 e2 (by omega) w45 (by rw [Sv])) f 0 _ hq (GI_f gi (fx_ui (fx_0) rfl)) fx_0 (by omega) (lp_0 _ ((gx_o (by decide)).trans (d45)))
  | false =>
    have db2 := of_decide_eq_false b2
    refine xq_n 91 [] [] [.int (Int32.ofInt 1)] (xh_ui (xh_ui h 48 t (Int32.ofInt 1)) 39 29 (Int32.ofInt 1)) [false] 7 hq rfl ⟨rfl, trivial⟩ (fun _ => ?_)
    have hq : a_rq a_tb (xh_ui (xh_ui h 48 t (Int32.ofInt 1)) 39 29 (Int32.ofInt 1)) := a_rq_ui hq
    have er : en T n p o fs = .inl (1, p, o, fs) := by
      unfold en
      rw [if_pos ((hh 2).mpr e2)]
      repeat (first | rw [if_pos (by omega)] | rw [if_neg (by omega)] | rw [if_pos b2] | rw [if_neg (by rw [b2]; decide)])
      try rfl
    have ev : ven T n p fs ((ov, av, su, w, nd) :: r) one = ((ov, av, S, 1, nd) :: r, one) := by
      rw [ven_c]
      rw [if_pos ((hh 2).mpr e2)]
      rw [← Sv]
      repeat (first | rw [if_pos (by omega)] | rw [if_neg (by omega)] | rw [if_pos b2] | rw [if_neg (by rw [b2]; decide)])
      try rfl
    rw [ev]
    refine xq_ret rfl rfl rfl (dQ_l er ?_ ((gx_o (by decide)).trans ((gx_o (by decide)).trans (d45))))
    have dtl : dfr (xh_ui (xh_ui h 48 t (Int32.ofInt 1)) 39 29 (Int32.ofInt 1)) sv fr r := (dfr_39 s4 (dfr_48t s4 ht (dt)))
    have q1 : xg 0 (xh_ui (xh_ui h 48 t (Int32.ofInt 1)) 39 29 (Int32.ofInt 1)).2.1 46 (4096 * t + sv) = S := (gx_o (by decide)).trans ((gx_o (by decide)).trans (d46))
    have q2 : xg 0 (xh_ui (xh_ui h 48 t (Int32.ofInt 1)) 39 29 (Int32.ofInt 1)).2.1 48 t = 1 := (gx_o (by decide)).trans (gx_s)
    have q3 : xg 0 (xh_ui (xh_ui h 48 t (Int32.ofInt 1)) 39 29 (Int32.ofInt 1)).2.1 49 t = nd := (gx_o (by decide)).trans ((gx_o (by decide)).trans (d49))
    rw [hfs]
    subst ht
    exact ⟨fun _ => ⟨q1, q2, q3⟩, fun z => absurd e2 z, dtl⟩
set_option maxRecDepth 100000 in
set_option maxHeartbeats 4000000 in
theorem en_326d {f p o ty : Nat} {fs : List Nat} {h0 h : xh_H} {x : Int32} {sv t : Nat} {fr : List Nat} {ov av one y : Bool} {su w nd : Int32} {r : List vF} (s4 : sv < 4096) (hfs : fs = ty :: fr) (ht : fr.length = t) (dt : dfr h sv fr r) (hq : a_rq a_tb h) (gi : GI h0 h T n mem nn NW p o fs 0) (wf : wfs fs) (hty : fs.head? = some ty) (e47 : xg 0 h.2.1 47 (fs.length - 1) = nI ty) (ty2 : ty ≤ 2) (e2 : ty ≠ 2) (a2 : ky T n p 2 = false) (a3 : ky T n p 3 = false) (d45 : xg 0 h.2.1 45 sv = bl y) (yv : (ov || (av && one)) = y) : xq f xi_X10_end_ xmi_X10_end_ 326 [(0, .ref 39), (1, .int (nI (4096 * t))), (2, .int x)] [] h (fun v h' => dQ h' sv (en T n p o fs) (ven T n p fs ((ov, av, su, w, nd) :: r) one)) := by
  have rr0 := gi.2.1
  have g0 := gi.1
  have hT : ∀ k, k < n → T k < 256 := fun k hk' => (rr0.1.2.2 k hk').1
  have rt := rr0.2.1
  have rb := (rkk_k (T := T) (n := n) (p := p)).1
  have kb := tkk_lt (T := T) (n := n) (p := p) hT
  have o120 := rr0.2.2.2.2.2.2.1
  have f1 := rr0.2.2.2.2.2.2.2.2.1
  have n16 := rr0.2.2.2.2.1.2.1
  have f13 := rr0.2.2.2.2.2.2.2.2.2.1
  have n6 := rr0.1.2.1
  have hh : ∀ j, fs.head? = some j ↔ ty = j := fun j => by rw [hty]; exact ⟨fun e => Option.some.inj e, fun e => by rw [e]⟩
  have et : fs.length - 1 = t := by rw [hfs, ← ht]; rfl
  have t12 : t ≤ 12 := by omega
  have fl2 : ty ≠ 0 → 2 ≤ fs.length := fun e => by
    have w := wfs_t wf (fun e1 => e ((hh 0).mp e1))
    have w2 := wfs_n w
    cases hf : fs with
    | nil => rw [hf] at f1; exact absurd f1 (by decide)
    | cons a b =>
      cases b with
      | nil => rw [hf] at w2; exact absurd rfl w2
      | cons c d => simp only [List.length_cons]; omega
  cases c1 : xe_c .ne (nI ty) 0 with
  | true =>
    have z1 : ty ≠ 0 := nq_net (a := ty) (b := 0) (by omega) (by omega) c1
    refine xq_n 369 [0, 1, 2] [(0, .ref 39), (1, .int (nI (4096 * t))), (2, .int x)] [.int 41, .ref 39] h [true] 10 hq rfl ⟨(show xe_c .ne (xg 0 h.2.1 47 ((xg 0 h.2.1 39 28).toNatClampNeg)) 0 = true by rw [show (xg 0 h.2.1 47 ((xg 0 h.2.1 39 28).toNatClampNeg)) = (nI ty) from (by rw [show (xg 0 h.2.1 39 28) = (nI t) from (by rw [← et]; exact rr0.2.2.2.2.2.2.2.1), show ((nI t).toNatClampNeg) = t from nI_clamp (by omega)]; exact (by rw [← et]; exact e47))]; exact c1), trivial⟩ (fun hq => ?_)
    refine xq_run hq rfl rfl (rsg_q (c := 41) (by decide) (by decide) hT (rt) hq) ?_
    rintro v2 h_v2 ⟨rfl, rfl⟩
    cases b3 : (decide (tkk T n p = 41)) with
    | true =>
      have db3 := of_decide_eq_true b3
      refine xq_n 392 [0, 1, 2] [(0, .ref 39), (1, .int (nI (4096 * t))), (2, .int x)] [.ref 39] (xh_ui h 39 28 ((xg 0 h.2.1 39 28) - (Int32.ofInt 1))) [true] 10 hq rfl ⟨rfl, trivial⟩ (fun _ => ?_)
      rw [show (xg 0 h.2.1 39 28) = (nI t) from (by rw [← et]; exact rr0.2.2.2.2.2.2.2.1)]
      rw [show ((nI t) - (Int32.ofInt 1)) = nI (t - 1) from nI_sub (b := 1) (by omega)]
      have hq : a_rq a_tb (xh_ui h 39 28 (nI (t - 1))) := a_rq_ui hq
      have nz4 : tkk T n p ≠ 0 := by omega
      have le4 := tke_le nz4
      refine xq_run hq rfl rfl (go_q hq (rtp_f (S := rT) (L := gL) rr0.1 (fx_ui (fx_0) rfl) rfl (fun _ => rfl)) ((gx_k (by decide)).trans (rt.2.2.2.2.2 (by omega))) le4) ?_
      rintro v4 h4 ⟨rfl, g4, t4⟩
      have hq := fx_q g4 hq
      have rb4 := (rkk_k (T := T) (n := n) (p := tke T n p)).1
      have kb4 := tkk_lt (T := T) (n := n) (p := tke T n p) hT
      refine xq_n 396 [] [] [.int (Int32.ofInt 1)] h4 [] 3 hq rfl trivial (fun hq => ?_)
      have er : en T n p o fs = .inl (0, tke T n p, o, fs.tail) := by
        unfold en
        rw [if_neg (fun e => e2 ((hh 2).mp e))]
        rw [if_neg (by rw [a2]; decide), if_neg (by rw [a3]; decide)]
        first | rw [if_pos ((hh 0).mpr (by omega))] | rw [if_neg (fun e => by have := (hh 0).mp e; omega)]
        repeat (first | rw [if_pos (by omega)] | rw [if_neg (by omega)] | rw [if_pos b3] | rw [if_neg (by rw [b3]; decide)])
        try rfl
      have ev : ven T n p fs ((ov, av, su, w, nd) :: r) one = (r, y) := by
        rw [ven_c]
        rw [if_neg (fun e => e2 ((hh 2).mp e))]
        rw [if_neg (by rw [a2]; decide), if_neg (by rw [a3]; decide), yv]
        repeat (first | rw [if_pos (by omega)] | rw [if_neg (by omega)] | rw [if_pos b3] | rw [if_neg (by rw [b3]; decide)])
        try rfl
      rw [ev]
      exact xq_ret rfl rfl rfl (dQ_l er (by rw [hfs]; exact dfr_go s4 (dfr_39 s4 (dt)) g4) ((fx_i g4 rfl).trans ((gx_o (by decide)).trans (d45))))
    | false =>
      have db3 := of_decide_eq_false b3
      refine xq_n 377 [0, 1, 2] [(0, .ref 39), (1, .int (nI (4096 * t))), (2, .int x)] [.int (Int32.ofInt 1), .ref 39] h [false] 5 hq rfl ⟨rfl, trivial⟩ (fun hq => ?_)
      refine xq_run hq rfl rfl (bad_q (k := 1) hT (rt) hq) ?_
      rintro v5 h5 ⟨rfl, g5, f5, l5⟩
      have hq := fx_q g5 hq
      rw [show (if rkk T n p = 1 then 1 else 1) = 1 by split <;> rfl] at f5
      have er : en T n p o fs = .inr (1, tks T n p) := by
        unfold en
        rw [if_neg (fun e => e2 ((hh 2).mp e))]
        rw [if_neg (by rw [a2]; decide), if_neg (by rw [a3]; decide)]
        first | rw [if_pos ((hh 0).mpr (by omega))] | rw [if_neg (fun e => by have := (hh 0).mp e; omega)]
        repeat (first | rw [if_pos (by omega)] | rw [if_neg (by omega)] | rw [if_pos b3] | rw [if_neg (by rw [b3]; decide)])
        try rfl
      exact xq_ret rfl rfl rfl (dQ_r er)
  | false =>
    have z1 : ty = 0 := nq_nef (a := ty) (b := 0) (by omega) (by omega) c1
    refine xq_n 346 [0, 1, 2] [(0, .ref 39), (1, .int (nI (4096 * t))), (2, .int x)] [.int 59, .ref 39] (xh_ui h 39 30 (Int32.ofInt 1)) [false] 13 hq rfl ⟨(show xe_c .ne (xg 0 h.2.1 47 ((xg 0 h.2.1 39 28).toNatClampNeg)) 0 = false by rw [show (xg 0 h.2.1 47 ((xg 0 h.2.1 39 28).toNatClampNeg)) = (nI ty) from (by rw [show (xg 0 h.2.1 39 28) = (nI t) from (by rw [← et]; exact rr0.2.2.2.2.2.2.2.1), show ((nI t).toNatClampNeg) = t from nI_clamp (by omega)]; exact (by rw [← et]; exact e47))]; exact c1), trivial⟩ (fun _ => ?_)
    have hq : a_rq a_tb (xh_ui h 39 30 (Int32.ofInt 1)) := a_rq_ui hq
    refine xq_run hq rfl rfl (rsg_q (c := 59) (by decide) (by decide) hT (rtk_ui (rt) rfl) hq) ?_
    rintro v6 h_v6 ⟨rfl, rfl⟩
    cases b7 : (decide (tkk T n p = 59)) with
    | true =>
      have db7 := of_decide_eq_true b7
      refine xq_n 365 [] [] [.int (Int32.ofInt 1)] (xh_ui h 39 30 (Int32.ofInt 1)) [true] 5 hq rfl ⟨rfl, trivial⟩ (fun hq => ?_)
      have er : en T n p o fs = .inl (0, tke T n p, o, []) := by
        unfold en
        rw [if_neg (fun e => e2 ((hh 2).mp e))]
        rw [if_neg (by rw [a2]; decide), if_neg (by rw [a3]; decide)]
        first | rw [if_pos ((hh 0).mpr (by omega))] | rw [if_neg (fun e => by have := (hh 0).mp e; omega)]
        repeat (first | rw [if_pos (by omega)] | rw [if_neg (by omega)] | rw [if_pos b7] | rw [if_neg (by rw [b7]; decide)])
        try rfl
      have ev : ven T n p fs ((ov, av, su, w, nd) :: r) one = (r, y) := by
        rw [ven_c]
        rw [if_neg (fun e => e2 ((hh 2).mp e))]
        rw [if_neg (by rw [a2]; decide), if_neg (by rw [a3]; decide), yv]
        repeat (first | rw [if_pos (by omega)] | rw [if_neg (by omega)] | rw [if_pos b7] | rw [if_neg (by rw [b7]; decide)])
        try rfl
      rw [ev]
      have fn : fr = [] := by have := wfs_0 wf (by rw [hty, show ty = 0 by omega]); rw [hfs] at this; cases this; rfl
      exact xq_ret rfl rfl rfl (dQ_l er (by have d : dfr (xh_ui h 39 30 (Int32.ofInt 1)) sv fr r := (dfr_39 s4 (dt)); rw [fn] at d; exact d) ((gx_o (by decide)).trans (d45)))
    | false =>
      have db7 := of_decide_eq_false b7
      refine xq_n 354 [0, 1, 2] [(0, .ref 39), (1, .int (nI (4096 * t))), (2, .int x)] [.int (Int32.ofInt 1), .ref 39] (xh_ui h 39 30 (Int32.ofInt 1)) [false] 5 hq rfl ⟨rfl, trivial⟩ (fun hq => ?_)
      refine xq_run hq rfl rfl (bad_q (k := 1) hT (rtk_ui (rt) rfl) hq) ?_
      rintro v8 h8 ⟨rfl, g8, f8, l8⟩
      have hq := fx_q g8 hq
      rw [show (if rkk T n p = 1 then 1 else 1) = 1 by split <;> rfl] at f8
      refine xq_n 365 [] [] [.int (Int32.ofInt 0)] h8 [true] 4 hq rfl ⟨(by decide), trivial⟩ (fun hq => ?_)
      have er : en T n p o fs = .inr (1, tks T n p) := by
        unfold en
        rw [if_neg (fun e => e2 ((hh 2).mp e))]
        rw [if_neg (by rw [a2]; decide), if_neg (by rw [a3]; decide)]
        first | rw [if_pos ((hh 0).mpr (by omega))] | rw [if_neg (fun e => by have := (hh 0).mp e; omega)]
        repeat (first | rw [if_pos (by omega)] | rw [if_neg (by omega)] | rw [if_pos b7] | rw [if_neg (by rw [b7]; decide)])
        try rfl
      exact xq_ret rfl rfl rfl (dQ_r er)
set_option maxRecDepth 100000 in
set_option maxHeartbeats 4000000 in
theorem en_279d {f p o ty : Nat} {fs : List Nat} {h0 h : xh_H} {x : Int32} {sv t : Nat} {fr : List Nat} {ov av one y : Bool} {su w nd : Int32} {r : List vF} (s4 : sv < 4096) (hfs : fs = ty :: fr) (ht : fr.length = t) (dt : dfr h sv fr r) (hq : a_rq a_tb h) (gi : GI h0 h T n mem nn NW p o fs 0) (wf : wfs fs) (hty : fs.head? = some ty) (e47 : xg 0 h.2.1 47 (fs.length - 1) = nI ty) (ty2 : ty ≤ 2) (e2 : ty ≠ 2) (a2 : ky T n p 2 = false) (d45 : xg 0 h.2.1 45 sv = bl one) (d41 : xg 0 h.2.1 41 (4096 * t + sv) = bl y) (d42 : xg 0 h.2.1 42 (4096 * t + sv) = bl true) (yv : (ov || (av && one)) = y) : xq f xi_X10_end_ xmi_X10_end_ 279 [(0, .ref 39), (1, .int (nI (4096 * t))), (2, .int x)] [] h (fun v h' => dQ h' sv (en T n p o fs) (ven T n p fs ((ov, av, su, w, nd) :: r) one)) := by
  have rr0 := gi.2.1
  have g0 := gi.1
  have hT : ∀ k, k < n → T k < 256 := fun k hk' => (rr0.1.2.2 k hk').1
  have rt := rr0.2.1
  have rb := (rkk_k (T := T) (n := n) (p := p)).1
  have kb := tkk_lt (T := T) (n := n) (p := p) hT
  have o120 := rr0.2.2.2.2.2.2.1
  have f1 := rr0.2.2.2.2.2.2.2.2.1
  have n16 := rr0.2.2.2.2.1.2.1
  have f13 := rr0.2.2.2.2.2.2.2.2.2.1
  have n6 := rr0.1.2.1
  have hh : ∀ j, fs.head? = some j ↔ ty = j := fun j => by rw [hty]; exact ⟨fun e => Option.some.inj e, fun e => by rw [e]⟩
  have et : fs.length - 1 = t := by rw [hfs, ← ht]; rfl
  have t12 : t ≤ 12 := by omega
  have fl2 : ty ≠ 0 → 2 ≤ fs.length := fun e => by
    have w := wfs_t wf (fun e1 => e ((hh 0).mp e1))
    have w2 := wfs_n w
    cases hf : fs with
    | nil => rw [hf] at f1; exact absurd f1 (by decide)
    | cons a b =>
      cases b with
      | nil => rw [hf] at w2; exact absurd rfl w2
      | cons c d => simp only [List.length_cons]; omega
  have e47t : ∀ {h' : xh_H}, GI h0 h' T n mem nn NW p o fs 0 → xg 0 h'.2.1 47 (fs.length - 1) = nI ty := fun {h'} g => by
    have w := g.2.1.2.2.2.2.2.2.2.2.2.2.1
    cases hf : fs with
    | nil => rw [hf] at hty; cases hty
    | cons a b =>
      rw [hf] at w hty
      have hty : a = ty := Option.some.inj hty
      rw [← hty]
      exact w.1
  refine xq_n 280 [0, 1, 2] [(0, .ref 39), (1, .int (nI (4096 * t))), (2, .int x)] [.ref 39] h [] 3 hq rfl trivial (fun hq => ?_)
  refine xq_run hq rfl rfl (rw3_q hT (rt) hq) ?_
  rintro v1 h_v1 ⟨rfl, rfl⟩
  cases b2 : (ky T n p 3) with
  | true =>
    have db2 := of_decide_eq_true b2
    refine xq_n 292 [0, 1, 2] [(0, .ref 39), (1, .int (nI (4096 * t))), (2, .int x)] [.ref 39] (xh_ui h 39 29 (Int32.ofInt 1)) [false] 7 hq rfl ⟨rfl, trivial⟩ (fun _ => ?_)
    have hq : a_rq a_tb (xh_ui h 39 29 (Int32.ofInt 1)) := a_rq_ui hq
    have nz3 : tkk T n p ≠ 0 := by omega
    have le3 := tke_le nz3
    refine xq_run hq rfl rfl (go_q hq (rtp_f (S := rT) (L := gL) rr0.1 (fx_ui (fx_0) rfl) rfl (fun _ => rfl)) ((gx_k (by decide)).trans (rt.2.2.2.2.2 (by omega))) le3) ?_
    rintro v3 h3 ⟨rfl, g3, t3⟩
    have hq := fx_q g3 hq
    have rb3 := (rkk_k (T := T) (n := n) (p := tke T n p)).1
    have kb3 := tkk_lt (T := T) (n := n) (p := tke T n p) hT
    refine xq_n 296 [] [] [.int (Int32.ofInt 1)] h3 [] 3 hq rfl trivial (fun hq => ?_)
    have er : en T n p o fs = .inl (1, tke T n p, o, fs) := by
      unfold en
      rw [if_neg (fun e => e2 ((hh 2).mp e))]
      rw [if_neg (by rw [a2]; decide)]
      repeat (first | rw [if_pos (by omega)] | rw [if_neg (by omega)] | rw [if_pos b2] | rw [if_neg (by rw [b2]; decide)])
      try rfl
    have ev : ven T n p fs ((ov, av, su, w, nd) :: r) one = ((y, true, su, w, nd) :: r, one) := by
      rw [ven_c]
      rw [if_neg (fun e => e2 ((hh 2).mp e))]
      rw [if_neg (by rw [a2]; decide), yv]
      repeat (first | rw [if_pos (by omega)] | rw [if_neg (by omega)] | rw [if_pos b2] | rw [if_neg (by rw [b2]; decide)])
      try rfl
    rw [ev]
    refine xq_ret rfl rfl rfl (dQ_l er ?_ ((fx_i g3 rfl).trans ((gx_o (by decide)).trans (d45))))
    have dtl : dfr h3 sv fr r := (dfr_go s4 (dfr_39 s4 (dt)) g3)
    have q1 : xg 0 h3.2.1 41 (4096 * t + sv) = bl y := (fx_i g3 rfl).trans ((gx_o (by decide)).trans (d41))
    have q2 : xg 0 h3.2.1 42 (4096 * t + sv) = bl true := (fx_i g3 rfl).trans ((gx_o (by decide)).trans (d42))
    rw [hfs]
    subst ht
    exact ⟨fun z => absurd z e2, fun _ => ⟨q1, q2⟩, dtl⟩
  | false =>
    have db2 := of_decide_eq_false b2
    refine xq_n 299 [0, 1, 2] [(0, .ref 39), (1, .int (nI (4096 * t))), (2, .int (Int32.ofInt 0))] [] h [true] 5 hq rfl ⟨rfl, trivial⟩ (fun hq => ?_)
    exact eld_299 (hb := h) (ov := y) (one := one) s4 et t12 (d41) (fun f x h hq gi ge w45 => en_326d s4 hfs ht (dE5 s4 (dt) ge) hq gi wf hty (e47t gi) ty2 e2 a2 b2 w45 yv) f 0 _ hq (gi) fx_0 (by omega) (lp_0 _ (d45))
set_option maxRecDepth 100000 in
set_option maxHeartbeats 4000000 in
theorem en_202d {f p o ty : Nat} {fs : List Nat} {h0 h : xh_H} {x : Int32} {sv t : Nat} {fr : List Nat} {ov av one : Bool} {su w nd : Int32} {r : List vF} (s4 : sv < 4096) (hfs : fs = ty :: fr) (ht : fr.length = t) (dt : dfr h sv fr r) (hq : a_rq a_tb h) (gi : GI h0 h T n mem nn NW p o fs 0) (wf : wfs fs) (hty : fs.head? = some ty) (e47 : xg 0 h.2.1 47 (fs.length - 1) = nI ty) (ty2 : ty ≤ 2) (e2 : ty ≠ 2) (d45 : xg 0 h.2.1 45 sv = bl one) (d41 : xg 0 h.2.1 41 (4096 * t + sv) = bl ov) (d42 : xg 0 h.2.1 42 (4096 * t + sv) = bl (av && one)) : xq f xi_X10_end_ xmi_X10_end_ 202 [(0, .ref 39), (1, .int (nI (4096 * t))), (2, .int x)] [] h (fun v h' => dQ h' sv (en T n p o fs) (ven T n p fs ((ov, av, su, w, nd) :: r) one)) := by
  have rr0 := gi.2.1
  have g0 := gi.1
  have hT : ∀ k, k < n → T k < 256 := fun k hk' => (rr0.1.2.2 k hk').1
  have rt := rr0.2.1
  have rb := (rkk_k (T := T) (n := n) (p := p)).1
  have kb := tkk_lt (T := T) (n := n) (p := p) hT
  have o120 := rr0.2.2.2.2.2.2.1
  have f1 := rr0.2.2.2.2.2.2.2.2.1
  have n16 := rr0.2.2.2.2.1.2.1
  have f13 := rr0.2.2.2.2.2.2.2.2.2.1
  have n6 := rr0.1.2.1
  have hh : ∀ j, fs.head? = some j ↔ ty = j := fun j => by rw [hty]; exact ⟨fun e => Option.some.inj e, fun e => by rw [e]⟩
  have et : fs.length - 1 = t := by rw [hfs, ← ht]; rfl
  have t12 : t ≤ 12 := by omega
  have fl2 : ty ≠ 0 → 2 ≤ fs.length := fun e => by
    have w := wfs_t wf (fun e1 => e ((hh 0).mp e1))
    have w2 := wfs_n w
    cases hf : fs with
    | nil => rw [hf] at f1; exact absurd f1 (by decide)
    | cons a b =>
      cases b with
      | nil => rw [hf] at w2; exact absurd rfl w2
      | cons c d => simp only [List.length_cons]; omega
  have e47t : ∀ {h' : xh_H}, GI h0 h' T n mem nn NW p o fs 0 → xg 0 h'.2.1 47 (fs.length - 1) = nI ty := fun {h'} g => by
    have w := g.2.1.2.2.2.2.2.2.2.2.2.2.1
    cases hf : fs with
    | nil => rw [hf] at hty; cases hty
    | cons a b =>
      rw [hf] at w hty
      have hty : a = ty := Option.some.inj hty
      rw [← hty]
      exact w.1
  refine xq_n 203 [0, 1, 2] [(0, .ref 39), (1, .int (nI (4096 * t))), (2, .int x)] [.ref 39] h [] 3 hq rfl trivial (fun hq => ?_)
  refine xq_run hq rfl rfl (rw2_q hT (rt) hq) ?_
  rintro v1 h_v1 ⟨rfl, rfl⟩
  cases b2 : (ky T n p 2) with
  | true =>
    have db2 := of_decide_eq_true b2
    refine xq_n 215 [0, 1, 2] [(0, .ref 39), (1, .int (nI (4096 * t))), (2, .int x)] [.ref 39] (xh_ui h 39 29 (Int32.ofInt 1)) [false] 7 hq rfl ⟨rfl, trivial⟩ (fun _ => ?_)
    have hq : a_rq a_tb (xh_ui h 39 29 (Int32.ofInt 1)) := a_rq_ui hq
    have nz3 : tkk T n p ≠ 0 := by omega
    have le3 := tke_le nz3
    refine xq_run hq rfl rfl (go_q hq (rtp_f (S := rT) (L := gL) rr0.1 (fx_ui (fx_0) rfl) rfl (fun _ => rfl)) ((gx_k (by decide)).trans (rt.2.2.2.2.2 (by omega))) le3) ?_
    rintro v3 h3 ⟨rfl, g3, t3⟩
    have hq := fx_q g3 hq
    have rb3 := (rkk_k (T := T) (n := n) (p := tke T n p)).1
    have kb3 := tkk_lt (T := T) (n := n) (p := tke T n p) hT
    refine xq_n 219 [] [] [.int (Int32.ofInt 1)] h3 [] 3 hq rfl trivial (fun hq => ?_)
    have er : en T n p o fs = .inl (1, tke T n p, o, fs) := by
      unfold en
      rw [if_neg (fun e => e2 ((hh 2).mp e))]
      repeat (first | rw [if_pos (by omega)] | rw [if_neg (by omega)] | rw [if_pos b2] | rw [if_neg (by rw [b2]; decide)])
      try rfl
    have ev : ven T n p fs ((ov, av, su, w, nd) :: r) one = ((ov, av && one, su, w, nd) :: r, one) := by
      rw [ven_c]
      rw [if_neg (fun e => e2 ((hh 2).mp e))]
      repeat (first | rw [if_pos (by omega)] | rw [if_neg (by omega)] | rw [if_pos b2] | rw [if_neg (by rw [b2]; decide)])
      try rfl
    rw [ev]
    refine xq_ret rfl rfl rfl (dQ_l er ?_ ((fx_i g3 rfl).trans ((gx_o (by decide)).trans (d45))))
    have dtl : dfr h3 sv fr r := (dfr_go s4 (dfr_39 s4 (dt)) g3)
    have q1 : xg 0 h3.2.1 41 (4096 * t + sv) = bl ov := (fx_i g3 rfl).trans ((gx_o (by decide)).trans (d41))
    have q2 : xg 0 h3.2.1 42 (4096 * t + sv) = bl (av && one) := (fx_i g3 rfl).trans ((gx_o (by decide)).trans (d42))
    rw [hfs]
    subst ht
    exact ⟨fun z => absurd z e2, fun _ => ⟨q1, q2⟩, dtl⟩
  | false =>
    have db2 := of_decide_eq_false b2
    refine xq_n 222 [0, 1, 2] [(0, .ref 39), (1, .int (nI (4096 * t))), (2, .int (Int32.ofInt 0))] [] h [true] 5 hq rfl ⟨rfl, trivial⟩ (fun hq => ?_)
    exact eld_222 (hb := h) (ov := ov) (av := av && one) s4 et t12 (fun f x h hq gi ge w41 w42 => en_279d s4 hfs ht (dE1 s4 ht (dt) ge) hq gi wf hty (e47t gi) ty2 e2 b2 ((fx_i ge rfl).trans (d45)) w41 w42 rfl) f 0 _ hq (gi) fx_0 (by omega) (lp_0 _ (d41)) (lp_0 _ (d42))
set_option maxRecDepth 100000 in
set_option maxHeartbeats 4000000 in
/-- X10.end -/
theorem en_dd {f p o ty : Nat} {fs : List Nat} {h0 h : xh_H} {sv : Nat} {ds : List vF} {one : Bool} (s4 : sv < 4096) (dd : dfr h sv fs ds) (d45 : xg 0 h.2.1 45 sv = bl one) (hq : a_rq a_tb h) (gi : GI h0 h T n mem nn NW p o fs 0) (wf : wfs fs) (hty : fs.head? = some ty) (e47 : xg 0 h.2.1 47 (fs.length - 1) = nI ty) (ty2 : ty ≤ 2) : xq f xi_X10_end_ xmi_X10_end_ 0 [(0, .ref 39)] [] h (fun v h' => dQ h' sv (en T n p o fs) (ven T n p fs ds one)) := by
  have rr0 := gi.2.1
  have g0 := gi.1
  have hT : ∀ k, k < n → T k < 256 := fun k hk' => (rr0.1.2.2 k hk').1
  have rt := rr0.2.1
  have rb := (rkk_k (T := T) (n := n) (p := p)).1
  have kb := tkk_lt (T := T) (n := n) (p := p) hT
  have o120 := rr0.2.2.2.2.2.2.1
  have f1 := rr0.2.2.2.2.2.2.2.2.1
  have n16 := rr0.2.2.2.2.1.2.1
  have f13 := rr0.2.2.2.2.2.2.2.2.2.1
  have n6 := rr0.1.2.1
  have e47t : ∀ {h' : xh_H}, GI h0 h' T n mem nn NW p o fs 0 → xg 0 h'.2.1 47 (fs.length - 1) = nI ty := fun {h'} g => by
    have w := g.2.1.2.2.2.2.2.2.2.2.2.2.1
    cases hf : fs with
    | nil => rw [hf] at hty; cases hty
    | cons a b =>
      rw [hf] at w hty
      have hty : a = ty := Option.some.inj hty
      rw [← hty]
      exact w.1
  obtain ⟨fr, hfs⟩ : ∃ fr, fs = ty :: fr := by
    cases hf : fs with
    | nil => rw [hf] at hty; cases hty
    | cons a b => rw [hf] at hty; cases hty; exact ⟨b, rfl⟩
  rw [hfs] at dd
  cases ds with
  | nil => exact absurd dd (by unfold dfr; exact id)
  | cons y r =>
  obtain ⟨ov, av, su, w, nd⟩ := y
  obtain ⟨q2, q1, dt⟩ := dd
  obtain ⟨t, ht⟩ : ∃ t, fr.length = t := ⟨_, rfl⟩
  rw [ht] at q2 q1
  have et : fs.length - 1 = t := by rw [hfs, ← ht]; rfl
  have t12 : t ≤ 12 := by omega
  cases c1 : xe_c .ne (nI ty) (Int32.ofInt 2) with
  | true =>
    have z1 : ty ≠ 2 := nq_net (a := ty) (b := 2) (by omega) (by omega) c1
    refine xq_n 156 [0, 1, 2] [(0, .ref 39), (1, .int (4096 * (xg 0 h.2.1 39 28))), (2, .int (Int32.ofInt 0))] [] h [true] 16 hq rfl ⟨(show xe_c .ne (xg 0 h.2.1 47 ((xg 0 h.2.1 39 28).toNatClampNeg)) (Int32.ofInt 2) = true by rw [show (xg 0 h.2.1 47 ((xg 0 h.2.1 39 28).toNatClampNeg)) = (nI ty) from (by rw [show (xg 0 h.2.1 39 28) = (nI t) from (by rw [← et]; exact rr0.2.2.2.2.2.2.2.1), show ((nI t).toNatClampNeg) = t from nI_clamp (by omega)]; exact (by rw [← et]; exact e47))]; exact c1), trivial⟩ (fun hq => ?_)
    rw [show (xg 0 h.2.1 39 28) = (nI t) from (by rw [← et]; exact rr0.2.2.2.2.2.2.2.1)]
    rw [show (4096 * (nI t)) = nI (4096 * t) from (nI_mul2 4096 t).symm]
    exact eld_156 (hb := h) (av := av) s4 et t12 d45 (fun f x h hq gi ge w42 => en_202d s4 hfs ht (dE2 s4 ht dt ge) hq gi wf hty (e47t gi) ty2 (by omega) ((fx_i ge rfl).trans d45) ((fx_i ge rfl).trans (q1 (by omega)).1) w42) f 0 _ hq gi fx_0 (by omega) (lp_0 _ (q1 (by omega)).2)
  | false =>
    have z1 : ty = 2 := nq_nef (a := ty) (b := 2) (by omega) (by omega) c1
    refine xq_n 24 [0, 1, 2] [(0, .ref 39), (1, .int (4096 * (xg 0 h.2.1 39 28))), (2, .int (Int32.ofInt 0))] [] h [false] 16 hq rfl ⟨(show xe_c .ne (xg 0 h.2.1 47 ((xg 0 h.2.1 39 28).toNatClampNeg)) (Int32.ofInt 2) = false by rw [show (xg 0 h.2.1 47 ((xg 0 h.2.1 39 28).toNatClampNeg)) = (nI ty) from (by rw [show (xg 0 h.2.1 39 28) = (nI t) from (by rw [← et]; exact rr0.2.2.2.2.2.2.2.1), show ((nI t).toNatClampNeg) = t from nI_clamp (by omega)]; exact (by rw [← et]; exact e47))]; exact c1), trivial⟩ (fun hq => ?_)
    rw [show (xg 0 h.2.1 39 28) = (nI t) from (by rw [← et]; exact rr0.2.2.2.2.2.2.2.1)]
    rw [show (4096 * (nI t)) = nI (4096 * t) from (nI_mul2 4096 t).symm]
    exact eld_24 (hb := h) s4 et t12 d45 (q2 (by omega)).2.1 (fun f x h hq gi ge w46 => en_66d s4 hfs ht (dE6 s4 ht dt ge) hq gi wf hty (e47t gi) ty2 (by omega) ((fx_i ge rfl).trans d45) w46 ((fx_i ge rfl).trans (q2 (by omega)).2.2) rfl) f 0 _ hq gi fx_0 (by omega) (lp_0 _ (q2 (by omega)).1)
end XDE
end
section
section XDW
variable {T : Nat → Nat} {n mem nn : Nat} {NW : Nat → Nat}
theorem vis_d {sv : Nat} {NV : Nat → Bool} {aw p o : Nat} {x : List vF × Bool} : ∀ k, vis T n nn NW sv NV mem k (aw, p, o, []) x = x := by
  intro k
  induction k with
  | zero => rfl
  | succ k ih =>
    show (match stp T n mem nn NW (aw, p, o, []) with
      | .inl s' => vis T n nn NW sv NV mem k s' (vdt T n nn NW sv NV (aw, p, o, []) x)
      | .inr _ => x) = x
    rw [show stp T n mem nn NW (aw, p, o, []) = .inl (aw, p, o, []) from if_pos rfl, show vdt T n nn NW sv NV (aw, p, o, []) x = x from if_pos rfl]
    exact ih
set_option maxRecDepth 100000 in
set_option maxHeartbeats 4000000 in
/-- the reference's loop does what the automaton does -/
theorem rlp_d {h0 : xh_H} {sv : Nat} {NV : Nat → Bool} (s4 : sv < 4096) : ∀ (k f : Nat) (s : aSt) (x : List vF × Bool) (h : xh_H), (∃ aw p o, its T n mem nn NW k s = .inl (aw, p, o, [])) → lSt h0 h T n mem nn NW s → dfr h sv s.2.2.2 x.1 → xg 0 h.2.1 45 sv = bl x.2 → dnm h sv nn NV → a_rq a_tb h → xq f xi_X10_readRule xmi_X10_readRule 15 [(0, .ref 39)] [] h (fun v h' => xg 0 h'.2.1 45 sv = bl (vis T n nn NW sv NV mem k s x).2 ∧ dnm h' sv nn NV) := by
  intro k
  induction k with
  | zero =>
    intro f s x h he ls dd d45 dn hq
    obtain ⟨aw, p, o, e⟩ := he
    have e : s = (aw, p, o, []) := Sum.inl.inj e
    subst e
    exact absurd rfl (wfs_n ls.2.1)
  | succ k ih =>
    intro f s x h he ls dd d45 dn hq
    obtain ⟨aw, p, o, fs⟩ := s
    obtain ⟨x1, x2⟩ := x
    have dd : dfr h sv fs x1 := dd
    have d45 : xg 0 h.2.1 45 sv = bl x2 := d45
    have ev : vis T n nn NW sv NV mem (k + 1) (aw, p, o, fs) (x1, x2) = (match stp T n mem nn NW (aw, p, o, fs) with
      | .inl s' => vis T n nn NW sv NV mem k s' (vdt T n nn NW sv NV (aw, p, o, fs) (x1, x2))
      | .inr _ => (x1, x2)) := rfl
    obtain ⟨gi, wf, aw1⟩ := ls
    have gi : GI h0 h T n mem nn NW p o fs aw := gi
    have wf : wfs fs := wf
    have aw1 : aw ≤ 1 := aw1
    have es : its T n mem nn NW (k + 1) (aw, p, o, fs) = (match stp T n mem nn NW (aw, p, o, fs) with
      | .inl s' => its T n mem nn NW k s'
      | .inr e => .inr e) := rfl
    rw [stp_n (s := (aw, p, o, fs)) (wfs_n wf)] at es ev
    have hd : vdt T n nn NW sv NV (aw, p, o, fs) (x1, x2) = if aw = 1 then vbg T n nn NW sv NV p fs x1 x2 else ven T n p fs x1 x2 := if_neg (wfs_n wf)
    rw [hd] at ev
    obtain ⟨ty, hty, e47, ty2⟩ := frs_h gi.2.1.2.2.2.2.2.2.2.2.2.2.1 wf
    have e30 := gi.2.2.2
    have e29 := gi.2.2.1
    by_cases ha : aw = 1
    · subst ha
      have es : its T n mem nn NW (k + 1) (1, p, o, fs) = (match bg T n mem nn NW p o fs with
        | .inl s' => its T n mem nn NW k s'
        | .inr e => .inr e) := es
      have ev : vis T n nn NW sv NV mem (k + 1) (1, p, o, fs) (x1, x2) = (match bg T n mem nn NW p o fs with
        | .inl s' => vis T n nn NW sv NV mem k s' (vbg T n nn NW sv NV p fs x1 x2)
        | .inr _ => (x1, x2)) := ev
      refine xq_n 30 [0] [(0, .ref 39)] [.ref 39] h [false, false] 9 hq rfl ⟨(show xe_c .ne (xg 0 h.2.1 39 30) 0 = false by rw [e30]; rfl), (show xe_c .eq (xg 0 h.2.1 39 29) 0 = false by rw [e29]; rfl), trivial⟩ (fun hq => ?_)
      refine xq_run hq rfl rfl (xq_and (bg_q gi.2.1 hty e47 ty2 hq) (bg_d s4 dd d45 dn gi.2.1 hty e47 ty2 hq)) ?_
      rintro v h1 ⟨⟨g1, q1, q2⟩, qd⟩
      have dn1 : dnm h1 sv nn NV := dnm_f dn g1 (fun _ => rfl)
      have hq := fx_q g1 hq
      have gt : fx rT gL h0 h1 := fx_t gi.1 (fx_w g1 (fun _ _ z => rS_t z) (fun _ _ z => z))
      cases hr : bg T n mem nn NW p o fs with
      | inl s' =>
        obtain ⟨aw', p', o', fs'⟩ := s'
        obtain ⟨rfl, r1, r2⟩ := q1 _ _ _ _ hr
        rw [hr] at es
        have es : its T n mem nn NW (k + 1) (1, p, o, fs) = its T n mem nn NW k (aw', p', o', fs') := es
        rw [es] at he
        rw [hr] at ev
        have ev : vis T n nn NW sv NV mem (k + 1) (1, p, o, fs) (x1, x2) = vis T n nn NW sv NV mem k (aw', p', o', fs') (vbg T n nn NW sv NV p fs x1 x2) := ev
        rw [ev]
        obtain ⟨e1, e2⟩ := qd _ _ _ _ hr
        refine xq_n 15 [0] [(0, .ref 39)] [] h1 [false] 4 hq rfl ⟨rfl, trivial⟩ (fun hq => ?_)
        obtain ⟨w1, w2⟩ := bg_w wf hr
        exact ih f _ _ h1 he ⟨⟨gt, r1, r2, (fx_i g1 rfl).trans e30⟩, w1, w2⟩ e1 e2 dn1 hq
      | inr e =>
        rw [hr] at es
        obtain ⟨_, _, _, he⟩ := he
        rw [es] at he
        cases he
    · have ha0 : aw = 0 := by omega
      subst ha0
      have es : its T n mem nn NW (k + 1) (0, p, o, fs) = (match en T n p o fs with
        | .inl s' => its T n mem nn NW k s'
        | .inr e => .inr e) := es
      have ev : vis T n nn NW sv NV mem (k + 1) (0, p, o, fs) (x1, x2) = (match en T n p o fs with
        | .inl s' => vis T n nn NW sv NV mem k s' (ven T n p fs x1 x2)
        | .inr _ => (x1, x2)) := ev
      refine xq_n 40 [0] [(0, .ref 39)] [.ref 39] h [false, true] 9 hq rfl ⟨(show xe_c .ne (xg 0 h.2.1 39 30) 0 = false by rw [e30]; rfl), (show xe_c .eq (xg 0 h.2.1 39 29) 0 = true by rw [e29]; rfl), trivial⟩ (fun hq => ?_)
      refine xq_run hq rfl rfl (xq_and (xq_and (en_q hq gi wf hty e47 ty2) (en_q (h0 := h) hq ⟨fx_0, gi.2⟩ wf hty e47 ty2)) (en_dd s4 dd d45 hq gi wf hty e47 ty2)) ?_
      rintro v h1 ⟨⟨⟨g1, q1, q2, q3⟩, g1', -⟩, qd⟩
      have dn1 : dnm h1 sv nn NV := dnm_f dn g1' (fun _ => rfl)
      have hq : a_rq a_tb h1 := fx_q (fx_t (fx_0 (S := rT) (L := gL)) g1) (a_rq_h0 gi.1 hq)
      cases hr : en T n p o fs with
      | inl s' =>
        obtain ⟨aw', p', o', fs'⟩ := s'
        rw [hr] at es
        have es : its T n mem nn NW (k + 1) (0, p, o, fs) = its T n mem nn NW k (aw', p', o', fs') := es
        rw [hr] at ev
        have ev : vis T n nn NW sv NV mem (k + 1) (0, p, o, fs) (x1, x2) = vis T n nn NW sv NV mem k (aw', p', o', fs') (ven T n p fs x1 x2) := ev
        rw [ev]
        obtain ⟨e1, e2⟩ := qd _ _ _ _ hr
        by_cases hn : fs' = []
        · subst hn
          rw [vis_d]
          obtain ⟨rfl, r1, r2⟩ := q2 _ _ _ hr
          have ep : p' = tke T n p ∧ o' = o ∧ tkk T n p = 59 := en_e wf hr
          refine xq_n 15 [0] [(0, .ref 39)] [] h1 [true] 3 hq rfl ⟨rfl, trivial⟩ (fun hq => ?_)
          refine xq_n 49 [0] [(0, .ref 39)] [.ref 39] h1 [true] 6 hq rfl ⟨(show xe_c .ne (xg 0 h1.2.1 39 30) 0 = true by rw [r1]; rfl), trivial⟩ (fun hq => ?_)
          obtain ⟨s1, s2, s3, s4, s5, s6, s7, s8⟩ := r2
          have nz : tkk T n p ≠ 0 := by omega
          refine xq_run hq rfl rfl (go_q hq s1 (s2.2.2.2.2.2 nz) (tke_le nz)) ?_
          rintro v h2 ⟨rfl, g2, t2⟩
          have hq := fx_q g2 hq
          refine xq_n 53 [] [] [.int (Int32.ofInt 1)] h2 [] 3 hq rfl trivial (fun hq => ?_)
          exact xq_ret rfl rfl rfl ⟨(fx_i g2 rfl).trans e2, dnm_f dn1 g2 (fun _ => rfl)⟩
        · obtain ⟨rfl, r1, r2, r3⟩ := q1 _ _ _ _ hr hn
          rw [es] at he
          refine xq_n 15 [0] [(0, .ref 39)] [] h1 [true] 3 hq rfl ⟨rfl, trivial⟩ (fun hq => ?_)
          obtain ⟨w1, w2⟩ := en_w wf hr hn
          exact ih f _ _ h1 he ⟨⟨g1, r1, r2, r3⟩, w1, w2⟩ e1 e2 dn1 hq
      | inr e =>
        rw [hr] at es
        obtain ⟨_, _, _, he⟩ := he
        rw [es] at he
        cases he
set_option maxRecDepth 100000 in
set_option maxHeartbeats 4000000 in
/-- X10.readRule -/
theorem rrl_d {f p o p' o' sv : Nat} {NV : Nat → Bool} {y one0 : Bool} {h : xh_H} (hs : sv < 4096) (hR : ∀ one, Rv T n nn NW sv NV mem (1, tke T n p, o, [0]) ([vR], one) (0, p', o', []) ([], y)) (dn : dnm h sv nn NV) (d45 : xg 0 h.2.1 45 sv = bl one0) (r0 : rq0 h T n mem nn NW p o) (nz : tkk T n p ≠ 0) (hq : a_rq a_tb h) : xq f xi_X10_readRule xmi_X10_readRule 0 [(0, .ref 39)] [] h (fun v h' => xg 0 h'.2.1 45 sv = bl y ∧ dnm h' sv nn NV) := by
  obtain ⟨s1, s2, s3, s4, s5, s6, s7, s8⟩ := r0
  refine xq_n 12 [0] [(0, .ref 39)] [.int (Int32.ofInt 0), .ref 39] (xh_ui (xh_ui h 39 28 (Int32.ofInt 0)) 39 30 (Int32.ofInt 0)) [] 10 hq rfl trivial (fun _ => ?_)
  have hq : a_rq a_tb (xh_ui (xh_ui h 39 28 (Int32.ofInt 0)) 39 30 (Int32.ofInt 0)) := a_rq_ui (a_rq_ui hq)
  have g1 : fx rT gL h (xh_ui (xh_ui h 39 28 (Int32.ofInt 0)) 39 30 (Int32.ofInt 0)) := fx_ui (fx_ui fx_0 rfl) rfl
  refine xq_run hq rfl rfl (xq_and (opr_q (t := 0) (ty := 0) (e := tke T n p) (by decide) (tke_le nz) hq (rtp_f s1 g1 rfl (fun _ => rfl)) ((gx_k (by decide)).trans ((gx_k (by decide)).trans (s2.2.2.2.2.2 nz))) ((gx_k (by decide)).trans gx_s)) (opr_d (t := 0) (e := tke T n p) hs (by decide) (tke_le nz) hq (rtp_f s1 g1 rfl (fun _ => rfl)) ((gx_k (by decide)).trans ((gx_k (by decide)).trans (s2.2.2.2.2.2 nz))) ((gx_k (by decide)).trans gx_s))) ?_
  rintro v h2 ⟨⟨rfl, g2, t2, y2, a2⟩, dg2, k1, k2⟩
  have hq := fx_q g2 hq
  have g3 : fx rT gL h h2 := fx_t g1 (fx_w g2 (fun _ _ z => oS_r (rS_t z)) (fun _ _ z => z))
  have hrr : rr h2 T n mem nn NW (tke T n p) o [0] := ⟨rtp_f s1 g3 rfl (fun _ => rfl), t2, (fx_i g3 rfl).trans s3, s4, nms_f s5 g3 rfl (fun _ => rfl), (fx_i g2 rfl).trans ((gx_k (by decide)).trans ((gx_k (by decide)).trans s6)), s7, (fx_i g2 rfl).trans ((gx_k (by decide)).trans gx_s), by decide, by decide, ⟨y2, by decide, trivial⟩, (fx_i g2 rfl).trans ((gx_k (by decide)).trans ((gx_k (by decide)).trans s8))⟩
  have hls : lSt h h2 T n mem nn NW (1, tke T n p, o, [0]) := ⟨⟨g3, hrr, a2, (fx_i g2 rfl).trans gx_s⟩, rfl, Nat.le_refl _⟩
  obtain ⟨j, hj, hv⟩ := hR one0
  have dd : dfr h2 sv [0] [vR] := ⟨fun z => absurd z (by decide), fun _ => ⟨k1, k2⟩, trivial⟩
  have e45 : xg 0 h2.2.1 45 sv = bl one0 := (fx_i dg2 rfl).trans ((gx_o (by decide)).trans ((gx_o (by decide)).trans d45))
  refine xq_mono (rlp_d hs j f _ ([vR], one0) h2 ⟨0, p', o', hj⟩ hls dd e45 (dnm_f dn g3 (fun _ => rfl)) hq) (fun v h' e => ?_)
  rw [hv] at e
  exact e
def F43 (m c k : Nat) : Bool := Nat.beq c 43 && Nat.ble (4096 * m) k
def F44 (m c k : Nat) : Bool := Nat.beq c 44 && Nat.ble (4096 * m) k
set_option maxRecDepth 100000 in
set_option maxHeartbeats 4000000 in
theorem bld_91 {hb : xh_H} {sv nn : Nat} {z45 z : Int32} {Q : Option Value → xh_H → Prop} (s4 : sv < 4096) (m16 : nn ≤ 16) (eb : xg 0 hb.2.1 39 26 = nI nn) (b45 : xg 0 hb.2.1 45 sv = z45) (K : ∀ (f : Nat) (x : Int32) (h : xh_H), a_rq a_tb h → fx (F43 nn) fN hb h → xg 0 h.2.1 43 (4096 * nn + sv) = vp_nar .boolean z45 → xq f xi_X10_readBody xmi_X10_readBody 125 [(0, .ref 39), (3, .int x)] [] h Q) : ∀ (f i : Nat) (h : xh_H), a_rq a_tb h → fx (F43 nn) fN hb h → i ≤ 4096 → xg 0 h.2.1 43 (4096 * nn + sv) = (if sv < i then vp_nar .boolean z45 else z) → xq f xi_X10_readBody xmi_X10_readBody 91 [(0, .ref 39), (3, .int (nI i))] [] h Q := by
  intro f
  induction f with
  | zero => intros; exact xq_0
  | succ f ih =>
    intro i h hq ge i6 w
    cases c1 : xe_c .ge (nI i) 4096 with
    | true =>
      have z1 : i ≥ 4096 := nq_get (a := i) (b := 4096) (by omega) (by omega) c1
      refine xq_m 125 [0, 3] [(0, .ref 39), (3, .int (nI i))] [] h [true] 5 hq rfl ⟨c1, trivial⟩ (fun hq => ?_)
      exact K f _ _ hq ge (lp_1 w (by omega))
    | false =>
      have z1 : i < 4096 := nq_gef (a := i) (b := 4096) (by omega) (by omega) c1
      refine xq_m 91 [0, 3] [(0, .ref 39), (3, .int ((nI i) + Int32.ofInt 1))] [] (xh_ui h 43 (((4096 * (xg 0 h.2.1 39 26)) + (nI i)).toNatClampNeg) (vp_nar .boolean (xg 0 h.2.1 45 ((nI i).toNatClampNeg)))) [false] 20 hq rfl ⟨c1, trivial⟩ (fun _ => ?_)
      rw [show (xg 0 h.2.1 45 ((nI i).toNatClampNeg)) = xg 0 h.2.1 45 i from (by rw [show ((nI i).toNatClampNeg) = i from nI_clamp (by omega)])]
      rw [show (xg 0 h.2.1 39 26) = (nI nn) from ((fx_i ge rfl).trans eb)]
      rw [show ((4096 * (nI nn)) + (nI i)) = nI (4096 * nn + i) from idx_a]
      rw [show ((nI (4096 * nn + i)).toNatClampNeg) = (4096 * nn + i) from nI_clamp (by omega)]
      rw [show ((nI i) + Int32.ofInt 1) = nI (i + 1) from nI_1 _]
      have hq : a_rq a_tb (xh_ui h 43 (4096 * nn + i) (vp_nar .boolean (xg 0 h.2.1 45 i))) := a_rq_ui hq
      exact ih (i + 1) _ hq (fx_ui ge (ble_t (by omega))) (by omega) (lp_w w (fun e => by rw [e, show xg 0 h.2.1 45 sv = z45 from (fx_i ge rfl).trans b45]))
set_option maxRecDepth 100000 in
set_option maxHeartbeats 4000000 in
theorem sld_141 {hb : xh_H} {sv sc : Nat} {fd z45 z : Int32} {Q : Option Value → xh_H → Prop} (s4 : sv < 4096) (m16 : sc ≤ 16) (eb : xg 0 hb.2.1 39 33 = nI sc) (b45 : xg 0 hb.2.1 45 sv = z45) (K : ∀ (f : Nat) (x : Int32) (h : xh_H), a_rq a_tb h → fx (F44 sc) fN hb h → xg 0 h.2.1 44 (4096 * sc + sv) = vp_nar .boolean z45 → xq f xi_X10_statute xmi_X10_statute 175 [(0, .ref 39), (1, .int fd), (3, .int x)] [] h Q) : ∀ (f i : Nat) (h : xh_H), a_rq a_tb h → fx (F44 sc) fN hb h → i ≤ 4096 → xg 0 h.2.1 44 (4096 * sc + sv) = (if sv < i then vp_nar .boolean z45 else z) → xq f xi_X10_statute xmi_X10_statute 141 [(0, .ref 39), (1, .int fd), (3, .int (nI i))] [] h Q := by
  intro f
  induction f with
  | zero => intros; exact xq_0
  | succ f ih =>
    intro i h hq ge i6 w
    cases c1 : xe_c .ge (nI i) 4096 with
    | true =>
      have z1 : i ≥ 4096 := nq_get (a := i) (b := 4096) (by omega) (by omega) c1
      refine xq_m 175 [0, 1, 3] [(0, .ref 39), (1, .int fd), (3, .int (nI i))] [] h [true] 5 hq rfl ⟨c1, trivial⟩ (fun hq => ?_)
      exact K f _ _ hq ge (lp_1 w (by omega))
    | false =>
      have z1 : i < 4096 := nq_gef (a := i) (b := 4096) (by omega) (by omega) c1
      refine xq_m 141 [0, 1, 3] [(0, .ref 39), (1, .int fd), (3, .int ((nI i) + Int32.ofInt 1))] [] (xh_ui h 44 (((4096 * (xg 0 h.2.1 39 33)) + (nI i)).toNatClampNeg) (vp_nar .boolean (xg 0 h.2.1 45 ((nI i).toNatClampNeg)))) [false] 20 hq rfl ⟨c1, trivial⟩ (fun _ => ?_)
      rw [show (xg 0 h.2.1 45 ((nI i).toNatClampNeg)) = xg 0 h.2.1 45 i from (by rw [show ((nI i).toNatClampNeg) = i from nI_clamp (by omega)])]
      rw [show (xg 0 h.2.1 39 33) = (nI sc) from ((fx_i ge rfl).trans eb)]
      rw [show ((4096 * (nI sc)) + (nI i)) = nI (4096 * sc + i) from idx_a]
      rw [show ((nI (4096 * sc + i)).toNatClampNeg) = (4096 * sc + i) from nI_clamp (by omega)]
      rw [show ((nI i) + Int32.ofInt 1) = nI (i + 1) from nI_1 _]
      have hq : a_rq a_tb (xh_ui h 44 (4096 * sc + i) (vp_nar .boolean (xg 0 h.2.1 45 i))) := a_rq_ui hq
      exact ih (i + 1) _ hq (fx_ui ge (ble_t (by omega))) (by omega) (lp_w w (fun e => by rw [e, show xg 0 h.2.1 45 sv = z45 from (fx_i ge rfl).trans b45]))
set_option maxRecDepth 100000 in
set_option maxHeartbeats 4000000 in
/-- X10.readBody -/
theorem rbd_d {f p o p' o' sv : Nat} {NV : Nat → Bool} {y one0 : Bool} {h : xh_H} (s4 : sv < 4096) (kn : nmt T n (tke T n p) = true) (hn' : hasn nn NW (tkw T n (tke T n p)) = false) (n15 : nn < 16) (k58 : tkk T n (tke T n (tke T n p)) = 58) (hR : ∀ one, Rv T n nn NW sv NV mem (1, tke T n (tke T n (tke T n p)), o, [0]) ([vR], one) (0, p', o', []) ([], y)) (dn : dnm h sv nn NV) (d45 : xg 0 h.2.1 45 sv = bl one0) (r0 : rq0 h T n mem nn NW p o) (nz : tkk T n p ≠ 0) (hq : a_rq a_tb h) : xq f xi_X10_readBody xmi_X10_readBody 0 [(0, .ref 39)] [] h (fun v h' => xg 0 h'.2.1 45 sv = bl y ∧ dnm h' sv (nn + 1) (upB NV nn y)) := by
  have hT : ∀ k, k < n → T k < 256 := fun k hk' => (r0.1.2.2 k hk').1
  have rt := r0.2.1
  have kb := tkk_lt (T := T) (n := n) (p := p) hT
  have n16 := r0.2.2.2.2.1.2.1
  have n6 := r0.1.2.1
  have o120 := r0.2.2.2.2.2.2.1
  have dkn := of_decide_eq_true kn
  have k58b : decide (tkk T n (tke T n (tke T n p)) = 58) = true := decide_eq_true k58
  refine xq_n 1 [0] [(0, .ref 39)] [.ref 39] h [] 3 hq rfl trivial (fun hq => ?_)
  have nz1 : tkk T n p ≠ 0 := by omega
  have le1 := tke_le nz1
  refine xq_run hq rfl rfl (go_q hq (r0.1) (rt.2.2.2.2.2 (by omega)) le1) ?_
  rintro v1 h1 ⟨rfl, g1, t1⟩
  have hq := fx_q g1 hq
  have rb1 := (rkk_k (T := T) (n := n) (p := tke T n p)).1
  have kb1 := tkk_lt (T := T) (n := n) (p := tke T n p) hT
  refine xq_n 5 [0] [(0, .ref 39)] [.ref 39] h1 [] 3 hq rfl trivial (fun hq => ?_)
  refine xq_run hq rfl rfl (rnm_q hT (t1) hq) ?_
  rintro v2 h_v2 ⟨rfl, rfl⟩
  refine xq_n 18 [0] [(0, .ref 39)] [.ref 39] h1 [true] 4 hq rfl ⟨(show xe_c .ne (bl (nmt T n (tke T n p))) 0 = true by rw [kn]; rfl), trivial⟩ (fun hq => ?_)
  refine xq_run hq rfl rfl (nh_q (nms_f (S := rT) (L := gL) r0.2.2.2.2.1 (fx_t (fx_0) (fx_w g1 (fun _ _ z => gS_r (rS_t z)) (fun _ _ z => z))) rfl (fun _ => rfl)) ((t1.2.2.1 (by omega)).2) (tkw_lt (by omega)) hq) ?_
  rintro v3 h_3 ⟨rfl, ⟨rfl, -⟩ | ⟨kk3, kl3, rfl, -, hn3⟩⟩
  · skip
    cases c4 : xe_c .ne (nI nn) 16 with
    | true =>
      have z4 : nn ≠ 16 := nq_net (a := nn) (b := 16) (by omega) (by omega) c4
      refine xq_n 52 [0, 1] [(0, .ref 39), (1, .long (xg 0 h1.2.2.1 39 15))] [.ref 39] h1 [true, true] 12 hq rfl ⟨(by decide), (show xe_c .ne (xg 0 h1.2.1 39 26) 16 = true by rw [show (xg 0 h1.2.1 39 26) = (nI nn) from (fx_i g1 rfl).trans (r0.2.2.2.2.1.1)]; exact c4), trivial⟩ (fun hq => ?_)
      rw [show (xg 0 h1.2.2.1 39 15) = (Int64.ofNat (tkw T n (tke T n p))) from (t1.2.2.1 (by omega)).2]
      have nz5 : tkk T n (tke T n p) ≠ 0 := by omega
      have le5 := tke_le nz5
      refine xq_run hq rfl rfl (go_q hq (rtp_f (S := rT) (L := gL) r0.1 (fx_t (fx_0) (fx_w g1 (fun _ _ z => gS_r (rS_t z)) (fun _ _ z => z))) rfl (fun _ => rfl)) (t1.2.2.2.2.2 (by omega)) le5) ?_
      rintro v5 h5 ⟨rfl, g5, t5⟩
      have hq := fx_q g5 hq
      have rb5 := (rkk_k (T := T) (n := n) (p := tke T n (tke T n p))).1
      have kb5 := tkk_lt (T := T) (n := n) (p := tke T n (tke T n p)) hT
      refine xq_n 58 [0, 1] [(0, .ref 39), (1, .long (Int64.ofNat (tkw T n (tke T n p))))] [.int 58, .ref 39] h5 [] 4 hq rfl trivial (fun hq => ?_)
      refine xq_run hq rfl rfl (rsg_q (c := 58) (by decide) (by decide) hT (t5) hq) ?_
      rintro v6 h_v6 ⟨rfl, rfl⟩
      refine xq_n 71 [0, 1] [(0, .ref 39), (1, .long (Int64.ofNat (tkw T n (tke T n p))))] [.ref 39] h5 [true] 4 hq rfl ⟨(show xe_c .ne (bl (decide (tkk T n (tke T n (tke T n p)) = 58))) 0 = true by rw [k58b]; rfl), trivial⟩ (fun hq => ?_)
      have gA : fx rT gL h h5 := fx_t (fx_t (fx_0) (fx_w g1 (fun _ _ z => gS_r (rS_t z)) (fun _ _ z => z))) (fx_w g5 (fun _ _ z => gS_r (rS_t z)) (fun _ _ z => z))
      have r1 : rq0 h5 T n mem nn NW (tke T n (tke T n p)) o := ⟨rtp_f (S := rT) (L := gL) r0.1 (fx_t (fx_t (fx_0) (fx_w g1 (fun _ _ z => gS_r (rS_t z)) (fun _ _ z => z))) (fx_w g5 (fun _ _ z => gS_r (rS_t z)) (fun _ _ z => z))) rfl (fun _ => rfl), t5, (fx_i g5 rfl).trans ((fx_i g1 rfl).trans (r0.2.2.1)), r0.2.2.2.1, nms_f (S := rT) (L := gL) r0.2.2.2.2.1 (fx_t (fx_t (fx_0) (fx_w g1 (fun _ _ z => gS_r (rS_t z)) (fun _ _ z => z))) (fx_w g5 (fun _ _ z => gS_r (rS_t z)) (fun _ _ z => z))) rfl (fun _ => rfl), (fx_i g5 rfl).trans ((fx_i g1 rfl).trans (r0.2.2.2.2.2.1)), r0.2.2.2.2.2.2.1, (fx_i g5 rfl).trans ((fx_i g1 rfl).trans (r0.2.2.2.2.2.2.2))⟩
      refine xq_run hq rfl rfl (xq_and (rrl_q (Or.inr ⟨p', o', rfl, Rv_c (hR true)⟩) r1 (by omega) hq) (rrl_d (one0 := one0) s4 hR (dnm_f dn gA (fun _ => rfl)) ((fx_i g5 rfl).trans ((fx_i g1 rfl).trans (d45))) r1 (by omega) hq)) ?_
      rintro v h9 ⟨⟨g9, q1, q2⟩, k45, dn9⟩
      have hq := fx_q g9 hq
      obtain ⟨rfl, r9⟩ := q1 _ _ rfl
      have e26 := r9.2.2.2.2.1.1
      refine xq_n 91 [0, 3] [(0, .ref 39), (3, .int (Int32.ofInt 0))] [] (xh_ul h9 50 (xg 0 h9.2.1 39 26).toNatClampNeg (Int64.ofNat (tkw T n (tke T n p)))) [true] 11 hq rfl ⟨rfl, trivial⟩ (fun _ => ?_)
      rw [e26, show (nI nn).toNatClampNeg = nn from nI_clamp (by omega)]
      have hq : a_rq a_tb (xh_ul h9 50 nn (Int64.ofNat (tkw T n (tke T n p)))) := a_rq_ul hq
      refine bld_91 (hb := xh_ul h9 50 nn (Int64.ofNat (tkw T n (tke T n p)))) s4 (by omega) e26 k45 (fun f x h3 hq g3 w3 => ?_) f 0 _ hq fx_0 (by omega) (lp_0 _ rfl)
      refine xq_n 136 [] [] [.int (Int32.ofInt 1)] (xh_ui h3 39 26 ((xg 0 h3.2.1 39 26) + (Int32.ofInt 1))) [] 9 hq rfl trivial (fun _ => ?_)
      refine xq_ret rfl rfl rfl ⟨(gx_o (by decide)).trans ((fx_i g3 rfl).trans k45), fun k hk' => ?_⟩
      unfold upB
      rw [gx_o (by decide)]
      by_cases ek : k = nn
      · rw [if_pos ek, ek, w3]; exact bl_n
      · rw [if_neg ek]; exact (fx_i (c := 43) (k := 4096 * k + sv) g3 (show Nat.ble (4096 * nn) (4096 * k + sv) = false from ble_n (by omega))).trans (dn9 k (by omega))
    | false =>
      have z4 : nn = 16 := nq_nef (a := nn) (b := 16) (by omega) (by omega) c4
      omega
  · rw [hn'] at hn3; cases hn3
def rW2 (sc c k : Nat) : Bool := rU c k || ((Nat.beq c 39 && Nat.beq k 33) || ((Nat.beq c 44 && Nat.ble (4096 * sc) k) || ((Nat.beq c 51 || Nat.beq c 52) && Nat.beq k sc)))
theorem rU_w2 {sc c k : Nat} (h : rW2 sc c k = false) : rU c k = false := (or_f h).1
theorem F44_w {sc c k : Nat} (h : rW2 sc c k = false) : F44 sc c k = false := (or_f (or_f (or_f h).2).2).1
theorem rW2_1 {sc : Nat} : rW2 sc 51 sc = true := by
  show Nat.beq sc sc = true
  exact Nat.beq_refl sc
theorem rW2_2 {sc : Nat} : rW2 sc 52 sc = true := by
  show Nat.beq sc sc = true
  exact Nat.beq_refl sc
def st_Q2 (h0 : xh_H) (sc : Nat) (fd : Int32) (r : Sum Nat (Nat × Nat)) (v : Option Value) (h' : xh_H) : Prop := fx (rW2 sc) rV h0 h' ∧ (∀ m, r = .inl m → xg 0 h'.2.1 39 33 = nI (sc + 1) ∧ xg 0 h'.2.1 51 sc = fd ∧ xg 0 h'.2.1 52 sc = xg 0 h0.2.1 39 3) ∧ ∀ k pl, r = .inr (k, pl) → xg 0 h'.2.1 39 33 = nI sc
set_option maxRecDepth 100000 in
set_option maxHeartbeats 4000000 in
/-- the text is accepted -/
theorem st_ok2 {f sc m sv : Nat} {fd z45 : Int32} {h0 h : xh_H} (s4 : sv < 4096) (hq : a_rq a_tb h) (g0 : fx rU rV h0 h) (e33 : xg 0 h.2.1 39 33 = nI sc) (sc8 : sc < 8) (b45 : xg 0 h.2.1 45 sv = z45) : xq f xi_X10_statute xmi_X10_statute 139 [(0, .ref 39), (1, .int fd)] [] h (fun v h' => st_Q2 h0 sc fd (.inl m) v h' ∧ xg 0 h'.2.1 44 (4096 * sc + sv) = vp_nar .boolean z45) := by
  refine xq_n 141 [0, 1, 3] [(0, .ref 39), (1, .int fd), (3, .int (Int32.ofInt 0))] [] h [] 4 hq rfl trivial (fun hq => ?_)
  refine sld_141 (hb := h) s4 (by omega) e33 b45 (fun f x h1 hq g1 w44 => ?_) f 0 _ hq fx_0 (by omega) (lp_0 _ rfl)
  have f33 : xg 0 h1.2.1 39 33 = nI sc := (fx_i g1 rfl).trans e33
  have f3 : xg 0 h1.2.1 39 3 = xg 0 h0.2.1 39 3 := (fx_i g1 rfl).trans (fx_i g0 rfl)
  refine xq_n 185 [0] [(0, .ref 39)] [] (xh_ui h1 51 (xg 0 h1.2.1 39 33).toNatClampNeg fd) [] 8 hq rfl trivial (fun _ => ?_)
  rw [f33, show (nI sc).toNatClampNeg = sc from nI_clamp (by omega)]
  have hq : a_rq a_tb (xh_ui h1 51 sc fd) := a_rq_ui hq
  have d33 : xg 0 (xh_ui h1 51 sc fd).2.1 39 33 = nI sc := (gx_o (by decide)).trans f33
  have d3 : xg 0 (xh_ui h1 51 sc fd).2.1 39 3 = xg 0 h0.2.1 39 3 := (gx_o (by decide)).trans f3
  have d51 : xg 0 (xh_ui h1 51 sc fd).2.1 51 sc = fd := gx_s
  have d44 : xg 0 (xh_ui h1 51 sc fd).2.1 44 (4096 * sc + sv) = vp_nar .boolean z45 := (gx_o (by decide)).trans w44
  have g2 : fx (rW2 sc) rV h0 (xh_ui h1 51 sc fd) := fx_ui (fx_t (fx_w g0 (fun _ _ => rU_w2) (fun _ _ z => z)) (fx_w g1 (fun c k z => F44_w z) (fun _ _ _ => rfl))) rW2_1
  generalize xh_ui h1 51 sc fd = h2 at hq d33 d3 d51 d44 g2 ⊢
  refine xq_n 198 [0] [(0, .ref 39)] [] (xh_ui h2 52 (xg 0 h2.2.1 39 33).toNatClampNeg (xg 0 h2.2.1 39 3)) [] 9 hq rfl trivial (fun _ => ?_)
  rw [d33, d3, show (nI sc).toNatClampNeg = sc from nI_clamp (by omega)]
  have hq : a_rq a_tb (xh_ui h2 52 sc (xg 0 h0.2.1 39 3)) := a_rq_ui hq
  have c33 : xg 0 (xh_ui h2 52 sc (xg 0 h0.2.1 39 3)).2.1 39 33 = nI sc := (gx_o (by decide)).trans d33
  have c51 : xg 0 (xh_ui h2 52 sc (xg 0 h0.2.1 39 3)).2.1 51 sc = fd := (gx_o (by decide)).trans d51
  have c52 : xg 0 (xh_ui h2 52 sc (xg 0 h0.2.1 39 3)).2.1 52 sc = xg 0 h0.2.1 39 3 := gx_s
  have c44 : xg 0 (xh_ui h2 52 sc (xg 0 h0.2.1 39 3)).2.1 44 (4096 * sc + sv) = vp_nar .boolean z45 := (gx_o (by decide)).trans d44
  have g3 : fx (rW2 sc) rV h0 (xh_ui h2 52 sc (xg 0 h0.2.1 39 3)) := fx_ui g2 rW2_2
  generalize xh_ui h2 52 sc (xg 0 h0.2.1 39 3) = h3 at hq c33 c51 c52 c44 g3 ⊢
  refine xq_n 212 [] [] [.int (xg 0 (xh_ui h3 39 33 ((xg 0 h3.2.1 39 33) + (Int32.ofInt 1))).2.1 39 26)] (xh_ui h3 39 33 ((xg 0 h3.2.1 39 33) + (Int32.ofInt 1))) [] 11 hq rfl trivial (fun _ => ?_)
  rw [c33, show nI sc + Int32.ofInt 1 = nI (sc + 1) from nI_1 _]
  refine xq_ret rfl rfl rfl ⟨⟨fx_ui g3 rfl, fun _ _ => ⟨gx_s, (gx_o (by decide)).trans c51, (gx_o (by decide)).trans c52⟩, fun _ _ e => (by cases e)⟩, (gx_o (by decide)).trans c44⟩
set_option maxRecDepth 100000 in
set_option maxHeartbeats 4000000 in
theorem st_bad2 {f sc k pl : Nat} {fd : Int32} {h0 h : xh_H} (hq : a_rq a_tb h) (g0 : fx rU rV h0 h) (e33 : xg 0 h.2.1 39 33 = nI sc) (e13 : xg 0 h.2.1 39 13 = nI k) (e14 : xg 0 h.2.1 39 14 = nI pl) : xq f xi_X10_statute xmi_X10_statute 132 [(0, .ref 39), (1, .int fd)] [] h (st_Q2 h0 sc fd (.inr (k, pl))) := by
  refine xq_n 138 [] [] [.int ((Int32.ofInt (-1)) - (xg 0 h.2.1 39 14))] h [] 6 hq rfl trivial (fun hq => ?_)
  rw [e14]
  refine xq_ret rfl rfl rfl ⟨fx_w g0 (fun _ _ => rU_w2) (fun _ _ z => z), fun _ e => (by cases e), fun _ _ e => ?_⟩
  exact e33
set_option maxRecDepth 100000 in
set_option maxHeartbeats 4000000 in
theorem st_fin2 {f sc p o : Nat} {fd : Int32} {h0 h : xh_H} {r : Sum Nat (Nat × Nat)} (hF : Fin_ T n mem p o nn NW r) (r0 : rq0 h T n mem nn NW p o) (hq : a_rq a_tb h) (g0 : fx rU rV h0 h) (e33 : xg 0 h.2.1 39 33 = nI sc) (sc8 : sc < 8) : xq f xi_X10_statute xmi_X10_statute 85 [(0, .ref 39), (1, .int fd)] [] h (st_Q2 h0 sc fd r) := by
  have hT : ∀ k, k < n → T k < 256 := fun k hk' => (r0.1.2.2 k hk').1
  unfold Fin_ at hF
  refine xq_n 86 [0, 1] [(0, .ref 39), (1, .int fd)] [.ref 39] h [] 3 hq rfl trivial (fun hq => ?_)
  refine xq_run hq rfl rfl (rw1_q hT r0.2.1 hq) ?_
  rintro v h1 ⟨rfl, rfl⟩
  cases b : ky T n p 1 with
  | false =>
    rw [if_pos b] at hF
    subst hF
    refine xq_n 94 [0, 1] [(0, .ref 39), (1, .int fd)] [.int (Int32.ofInt 1), .ref 39] h [false] 5 hq rfl ⟨rfl, trivial⟩ (fun hq => ?_)
    refine xq_run hq rfl rfl (bad_q (k := 1) hT r0.2.1 hq) ?_
    rintro v h2 ⟨rfl, g2, f2, l2⟩
    have hq := fx_q g2 hq
    rw [show (if rkk T n p = 1 then 1 else 1) = 1 by split <;> rfl] at f2
    refine xq_n 132 [0, 1] [(0, .ref 39), (1, .int fd)] [] h2 [true, true] 8 hq rfl ⟨rfl, by decide, trivial⟩ (fun hq => ?_)
    exact st_bad2 hq (fx_t g0 (fx_w g2 (fun _ _ z => bS_r (rS_t (rT_u z))) (fun _ _ _ => rfl))) ((fx_i g2 rfl).trans e33) f2 l2
  | true =>
    rw [if_neg (by rw [b]; decide)] at hF
    obtain ⟨q, hR, hq2⟩ := hF
    have nz : tkk T n p ≠ 0 := by have := (of_decide_eq_true b).1; omega
    refine xq_n 111 [0, 1] [(0, .ref 39), (1, .int fd)] [.ref 39] h [true, false] 9 hq rfl ⟨rfl, by decide, trivial⟩ (fun hq => ?_)
    refine xq_run hq rfl rfl (rrl_q hR r0 nz hq) ?_
    rintro v h2 ⟨g2, q1, q2⟩
    have hq := fx_q g2 hq
    have g3 : fx rU rV h0 h2 := fx_t g0 (fx_w g2 (fun _ _ => rT_u) (fun _ _ => gL_v))
    have f33 : xg 0 h2.2.1 39 33 = nI sc := (fx_i g2 rfl).trans e33
    rcases hq2 with ⟨k, pl, rfl, rfl⟩ | ⟨p', o', rfl, rfl⟩
    · obtain ⟨rfl, f1, f2⟩ := q2 _ _ rfl
      refine xq_n 132 [0, 1] [(0, .ref 39), (1, .int fd)] [] h2 [true] 3 hq rfl ⟨rfl, trivial⟩ (fun hq => ?_)
      exact st_bad2 hq g3 f33 f1 f2
    · obtain ⟨rfl, s1, s2, s3, s4, s5, s6, s7, s8⟩ := q1 _ _ rfl
      have rb := (rkk_k (T := T) (n := n) (p := p')).1
      by_cases hz : rkk T n p' = 0
      · rw [if_pos hz]
        refine xq_n 139 [0, 1] [(0, .ref 39), (1, .int fd)] [] h2 [false, true] 6 hq rfl ⟨rfl, (show xe_c .eq (xg 0 h2.2.1 39 9) 0 = true by rw [s2.2.1, hz]; rfl), trivial⟩ (fun hq => ?_)
        exact xq_mono (st_ok2 (sv := 0) (by decide) hq g3 f33 sc8 rfl) (fun v h' e => e.1)
      · rw [if_neg hz]
        refine xq_n 126 [0, 1] [(0, .ref 39), (1, .int fd)] [.int (Int32.ofInt 1), .ref 39] h2 [false, false] 8 hq rfl ⟨rfl, (show xe_c .eq (xg 0 h2.2.1 39 9) 0 = false by rw [s2.2.1]; exact xeq_f (by rw [nI_toInt (by omega)]; show ((rkk T n p' : Nat) : Int) ≠ 0; omega)), trivial⟩ (fun hq => ?_)
        refine xq_run hq rfl rfl (bad_q (k := 1) hT s2 hq) ?_
        rintro v h3 ⟨rfl, g4, f4, l4⟩
        have hq := fx_q g4 hq
        rw [show (if rkk T n p' = 1 then 1 else 1) = 1 by split <;> rfl] at f4
        refine xq_n 132 [0, 1] [(0, .ref 39), (1, .int fd)] [] h3 [false] 3 hq rfl ⟨rfl, trivial⟩ (fun hq => ?_)
        exact st_bad2 hq (fx_t g3 (fx_w g4 (fun _ _ z => bS_r (rS_t (rT_u z))) (fun _ _ _ => rfl))) ((fx_i g4 rfl).trans f33) f4 l4
set_option maxRecDepth 100000 in
set_option maxHeartbeats 4000000 in
theorem st_642 {sc : Nat} {fd : Int32} {h0 : xh_H} {r : Sum Nat (Nat × Nat)} (sc8 : sc < 8) : ∀ (j p o nn : Nat) (NW : Nat → Nat) (f : Nat) (h : xh_H), Tx T n mem j p o nn NW r → rq0 h T n mem nn NW p o → a_rq a_tb h → fx rU rV h0 h → xg 0 h.2.1 39 33 = nI sc → xq f xi_X10_statute xmi_X10_statute 64 [(0, .ref 39), (1, .int fd)] [] h (st_Q2 h0 sc fd r) := by
  intro j
  induction j with
  | zero =>
    intro p o nn NW f h hX r0 hq g0 e33
    have hT : ∀ k, k < n → T k < 256 := fun k hk' => (r0.1.2.2 k hk').1
    refine xq_n 65 [0, 1] [(0, .ref 39), (1, .int fd)] [.ref 39] h [] 3 hq rfl trivial (fun hq => ?_)
    refine xq_run hq rfl rfl (rw0_q hT r0.2.1 hq) ?_
    rintro v h1 ⟨rfl, rfl⟩
    rw [hX.1]
    refine xq_n 85 [0, 1] [(0, .ref 39), (1, .int fd)] [] h [true] 3 hq rfl ⟨rfl, trivial⟩ (fun hq => ?_)
    exact st_fin2 hX.2 r0 hq g0 e33 sc8
  | succ j ih =>
    intro p o nn NW f h hX r0 hq g0 e33
    have hT : ∀ k, k < n → T k < 256 := fun k hk' => (r0.1.2.2 k hk').1
    obtain ⟨hb, b, hB, hb2⟩ := hX
    have nz : tkk T n p ≠ 0 := by have := (of_decide_eq_true hb).1; omega
    refine xq_n 65 [0, 1] [(0, .ref 39), (1, .int fd)] [.ref 39] h [] 3 hq rfl trivial (fun hq => ?_)
    refine xq_run hq rfl rfl (rw0_q hT r0.2.1 hq) ?_
    rintro v h1 ⟨rfl, rfl⟩
    rw [hb]
    refine xq_n 72 [0, 1] [(0, .ref 39), (1, .int fd)] [.ref 39] h [false] 4 hq rfl ⟨rfl, trivial⟩ (fun hq => ?_)
    refine xq_run hq rfl rfl (rbd_q hB r0 nz hq) ?_
    rintro v h2 ⟨g2, q1, q2⟩
    have hq := fx_q g2 hq
    have f33 : xg 0 h2.2.1 39 33 = nI sc := (fx_i g2 rfl).trans e33
    rcases hb2 with ⟨k, pl, rfl, rfl⟩ | ⟨p', o', w, rfl, hX2⟩
    · obtain ⟨rfl, f1, f2⟩ := q2 _ _ rfl
      refine xq_n 84 [] [] [.int ((Int32.ofInt (-1)) - (xg 0 h2.2.1 39 14))] h2 [false] 7 hq rfl ⟨rfl, trivial⟩ (fun hq => ?_)
      rw [f2]
      refine xq_ret rfl rfl rfl ⟨fx_w (fx_t g0 g2) (fun _ _ => rU_w2) (fun _ _ z => z), fun _ e => (by cases e), fun _ _ e => ?_⟩
      exact f33
    · obtain ⟨rfl, r1⟩ := q1 _ _ _ rfl
      refine xq_n 64 [0, 1] [(0, .ref 39), (1, .int fd)] [] h2 [true] 3 hq rfl ⟨rfl, trivial⟩ (fun hq => ?_)
      exact ih _ _ _ _ f h2 hX2 r1 hq (fx_t g0 g2) f33
set_option maxRecDepth 100000 in
set_option maxHeartbeats 4000000 in
theorem st_64d {sc sv : Nat} {y : Bool} {fd : Int32} (s4 : sv < 4096) (sc8 : sc < 8) : ∀ (j p o nn : Nat) (NW : Nat → Nat) (NV : Nat → Bool) (one0 : Bool) (f : Nat) (h : xh_H), Tv T n mem sv j p o nn NW NV y → rq0 h T n mem nn NW p o → dnm h sv nn NV → xg 0 h.2.1 45 sv = bl one0 → a_rq a_tb h → xg 0 h.2.1 39 33 = nI sc → xq f xi_X10_statute xmi_X10_statute 64 [(0, .ref 39), (1, .int fd)] [] h (fun v h' => xg 0 h'.2.1 44 (4096 * sc + sv) = bl y) := by
  intro j
  induction j with
  | zero =>
    intro p o nn NW NV one0 f h hX r0 dn d45 hq e33
    have hT : ∀ k, k < n → T k < 256 := fun k hk' => (r0.1.2.2 k hk').1
    obtain ⟨kb, kc, p', o', hz, hR⟩ := hX
    have nz : tkk T n p ≠ 0 := by have := (of_decide_eq_true kc).1; omega
    refine xq_n 65 [0, 1] [(0, .ref 39), (1, .int fd)] [.ref 39] h [] 3 hq rfl trivial (fun hq => ?_)
    refine xq_run hq rfl rfl (rw0_q hT r0.2.1 hq) ?_
    rintro v h1 ⟨rfl, rfl⟩
    rw [kb]
    refine xq_n 85 [0, 1] [(0, .ref 39), (1, .int fd)] [] h [true] 3 hq rfl ⟨rfl, trivial⟩ (fun hq => ?_)
    refine xq_n 86 [0, 1] [(0, .ref 39), (1, .int fd)] [.ref 39] h [] 3 hq rfl trivial (fun hq => ?_)
    refine xq_run hq rfl rfl (rw1_q hT r0.2.1 hq) ?_
    rintro v h1 ⟨rfl, rfl⟩
    rw [kc]
    refine xq_n 111 [0, 1] [(0, .ref 39), (1, .int fd)] [.ref 39] h [true, false] 9 hq rfl ⟨rfl, by decide, trivial⟩ (fun hq => ?_)
    refine xq_run hq rfl rfl (xq_and (rrl_q (Or.inr ⟨p', o', rfl, Rv_c (hR true)⟩) r0 nz hq) (rrl_d s4 hR dn d45 r0 nz hq)) ?_
    rintro v h2 ⟨⟨g2, q1, q2⟩, k45, -⟩
    have hq := fx_q g2 hq
    obtain ⟨rfl, s1, s2, s3, s4', s5, s6, s7, s8⟩ := q1 _ _ rfl
    refine xq_n 139 [0, 1] [(0, .ref 39), (1, .int fd)] [] h2 [false, true] 6 hq rfl ⟨rfl, (show xe_c .eq (xg 0 h2.2.1 39 9) 0 = true by rw [s2.2.1, hz]; rfl), trivial⟩ (fun hq => ?_)
    refine xq_mono (st_ok2 (m := 0) s4 hq fx_0 ((fx_i g2 rfl).trans e33) sc8 k45) (fun v h' e => ?_)
    rw [e.2]
    exact bl_n
  | succ j ih =>
    intro p o nn NW NV one0 f h hX r0 dn d45 hq e33
    have hT : ∀ k, k < n → T k < 256 := fun k hk' => (r0.1.2.2 k hk').1
    obtain ⟨kb, kn, hn', n15, k58, p', o', y1, hR, hX⟩ := hX
    have nz : tkk T n p ≠ 0 := by have := (of_decide_eq_true kb).1; omega
    have hB : Bdy T n mem nn NW p o (.inl (p', o', tkw T n (tke T n p))) := by
      unfold Bdy
      rw [if_neg (by rw [kn]; decide), if_neg (by rw [hn']; decide), if_neg (by omega), if_neg (by omega)]
      exact ⟨.inl (p', o'), Or.inr ⟨p', o', rfl, Rv_c (hR true)⟩, rfl⟩
    refine xq_n 65 [0, 1] [(0, .ref 39), (1, .int fd)] [.ref 39] h [] 3 hq rfl trivial (fun hq => ?_)
    refine xq_run hq rfl rfl (rw0_q hT r0.2.1 hq) ?_
    rintro v h1 ⟨rfl, rfl⟩
    rw [kb]
    refine xq_n 72 [0, 1] [(0, .ref 39), (1, .int fd)] [.ref 39] h [false] 4 hq rfl ⟨rfl, trivial⟩ (fun hq => ?_)
    refine xq_run hq rfl rfl (xq_and (rbd_q hB r0 nz hq) (rbd_d s4 kn hn' n15 k58 hR dn d45 r0 nz hq)) ?_
    rintro v h2 ⟨⟨g2, q1, q2⟩, k45, dn2⟩
    have hq := fx_q g2 hq
    have f33 : xg 0 h2.2.1 39 33 = nI sc := (fx_i g2 rfl).trans e33
    obtain ⟨rfl, r1⟩ := q1 _ _ _ rfl
    refine xq_n 64 [0, 1] [(0, .ref 39), (1, .int fd)] [] h2 [true] 3 hq rfl ⟨rfl, trivial⟩ (fun hq => ?_)
    exact ih _ _ _ _ _ _ f h2 hX r1 dn2 k45 hq f33
/-- what the reference's statute leaves of its statutes -/
def sA0 (c k : Nat) : Bool := Nat.beq c 39 && (Nat.beq k 0 || (Nat.beq k 2 || Nat.beq k 6))
def rW3 (sc c k : Nat) : Bool := rW2 sc c k || sA0 c k
theorem sA0_w {sc c k : Nat} (h : rW3 sc c k = false) : sA0 c k = false := (or_f h).2
theorem rW3_w {sc c k : Nat} (h : rW3 sc c k = false) : rW2 sc c k = false := (or_f h).1
def s10_D (h : xh_H) (sc td : Nat) (fd : Int32) (r : Sum Nat (Nat × Nat)) (sv : Nat) (y : Bool) (v : Option Value) (h' : xh_H) : Prop := fx (rW3 sc) rV h h' ∧ (sref sc td fd → fx (fun c _ => Nat.beq c 39) rV h h') ∧ (¬ sref sc td fd → (∀ m, r = .inl m → xg 0 h'.2.1 39 33 = nI (sc + 1) ∧ xg 0 h'.2.1 51 sc = fd ∧ xg 0 h'.2.1 52 sc = nI td ∧ xg 0 h'.2.1 44 (4096 * sc + sv) = bl y) ∧ ∀ k pl, r = .inr (k, pl) → xg 0 h'.2.1 39 33 = nI sc)
def sA1 (c k : Nat) : Bool := Nat.beq c 39 && (Nat.beq k 13 || (Nat.beq k 26 || (Nat.beq k 27 || Nat.beq k 7)))
theorem sA1_w {sc c k : Nat} (h : rW3 sc c k = false) : sA1 c k = false := by
  rw [Bool.eq_false_iff]
  intro z
  unfold sA1 at z
  cases h1 : Nat.beq c 39 with
  | false => rw [h1] at z; cases z
  | true =>
    rw [h1] at z
    have e1 := Nat.eq_of_beq_eq_true h1
    subst e1
    have z : (Nat.beq k 13 || (Nat.beq k 26 || (Nat.beq k 27 || Nat.beq k 7))) = true := z
    cases h2 : Nat.beq k 13 with
    | true => rw [Nat.eq_of_beq_eq_true h2] at h; cases h
    | false =>
      rw [h2] at z
      cases h3 : Nat.beq k 26 with
      | true => rw [Nat.eq_of_beq_eq_true h3] at h; cases h
      | false =>
        rw [h3] at z
        cases h4 : Nat.beq k 27 with
        | true => rw [Nat.eq_of_beq_eq_true h4] at h; cases h
        | false =>
          rw [h4] at z
          have z : Nat.beq k 7 = true := z
          rw [Nat.eq_of_beq_eq_true z] at h
          cases h
theorem sA0_x {c k : Nat} (h : Nat.beq c 39 = false) : sA0 c k = false := by unfold sA0; rw [h]; rfl
theorem sA0_u {c k : Nat} (h : Nat.beq c 39 = false) : sA0 c k = false := by unfold sA0; rw [h]; rfl
theorem sA1_u {c k : Nat} (h : Nat.beq c 39 = false) : sA1 c k = false := by unfold sA1; rw [h]; rfl
theorem gS_u {c k : Nat} (h : Nat.beq c 39 = false) : gS c k = false := by unfold gS; rw [h]; rfl
set_option maxRecDepth 100000 in
set_option maxHeartbeats 4000000 in
/-- X10.statute -/
theorem s10_d {f sc td : Nat} {fd : Int32} {h : xh_H} {r : Sum Nat (Nat × Nat)} (hq : a_rq a_tb h) (n6 : n ≤ 640) (e2 : xg 0 h.2.1 39 2 = nI n) (hT : ∀ k, k < n → T k < 256 ∧ xg 0 h.2.1 40 k = nI (T k)) (e4 : xg 0 h.2.1 39 4 = nI mem) (m12 : mem ≤ 12) (e33 : xg 0 h.2.1 39 33 = nI sc) (sc8 : sc ≤ 8) (e3 : xg 0 h.2.1 39 3 = nI td) (td9 : td ≤ 999) {W : Nat → Nat} (hX : ¬ sref sc td fd → ∃ j, Tx T n mem j 0 0 0 W r) {sv : Nat} {y one0 : Bool} {NV : Nat → Bool} (s4 : sv < 4096) (d45 : xg 0 h.2.1 45 sv = bl one0) (hV : ¬ sref sc td fd → ∀ m, r = .inl m → ∃ j, Tv T n mem sv j 0 0 0 W NV y) : xq f xi_X10_statute xmi_X10_statute 0 [(0, .ref 39), (1, .int fd)] [] h (s10_D h sc td fd r sv y) := by
  have tdi := nI_toInt (n := td) (by omega)
  refine xq_n 7 [0, 1] [(0, .ref 39), (1, .int fd)] [.ref 39, .ref 39] (xh_ui h 39 0 (Int32.ofInt 0)) [] 7 hq rfl trivial (fun _ => ?_)
  have hq : a_rq a_tb (xh_ui h 39 0 (Int32.ofInt 0)) := a_rq_ui hq
  refine xq_run hq rfl rfl (take_q hq) ?_
  rintro v h1 ⟨rfl, rfl⟩
  have hq : a_rq a_tb (xh_ui (xh_ui h 39 0 (Int32.ofInt 0)) 39 2 (Int32.ofInt 0)) := a_rq_ui hq
  rw [show xg 0 (xh_ui h 39 0 (Int32.ofInt 0)).2.1 39 2 = nI n from (gx_k (by decide)).trans e2]
  have g1 : fx sA0 fN h (xh_ui (xh_ui (xh_ui h 39 0 (Int32.ofInt 0)) 39 2 (Int32.ofInt 0)) 39 6 (nI n)) := fx_ui (fx_ui (fx_ui fx_0 rfl) rfl) rfl
  have d33 := (fx_i (c := 39) (k := 33) g1 rfl).trans e33
  have d3 := (fx_i (c := 39) (k := 3) g1 rfl).trans e3
  have d13 := fx_i (c := 39) (k := 13) g1 rfl
  have d4 := (fx_i (c := 39) (k := 4) g1 rfl).trans e4
  have d40 : ∀ k, k < n → T k < 256 ∧ xg 0 (xh_ui (xh_ui (xh_ui h 39 0 (Int32.ofInt 0)) 39 2 (Int32.ofInt 0)) 39 6 (nI n)).2.1 40 k = nI (T k) := fun k hk' => ⟨(hT k hk').1, (fx_i (c := 40) (k := k) g1 rfl).trans (hT k hk').2⟩
  have d6 : xg 0 (xh_ui (xh_ui (xh_ui h 39 0 (Int32.ofInt 0)) 39 2 (Int32.ofInt 0)) 39 6 (nI n)).2.1 39 6 = nI n := gx_s
  have hq1 : a_rq a_tb (xh_ui (xh_ui (xh_ui h 39 0 (Int32.ofInt 0)) 39 2 (Int32.ofInt 0)) 39 6 (nI n)) := a_rq_ui hq
  refine xq_n 13 [0, 1] [(0, .ref 39), (1, .int fd)] [] (xh_ui (xh_ui (xh_ui h 39 0 (Int32.ofInt 0)) 39 2 (Int32.ofInt 0)) 39 6 (nI n)) [] 3 hq rfl trivial (fun _ => ?_)
  generalize xh_ui (xh_ui (xh_ui h 39 0 (Int32.ofInt 0)) 39 2 (Int32.ofInt 0)) 39 6 (nI n) = h1 at d33 d3 d13 d4 d40 d6 hq1 g1 ⊢
  have hq := hq1
  by_cases k8 : sc = 8
  · refine xq_n 39 [] [] [.int (-1000)] h1 [true] 7 hq rfl ⟨(show xe_c .eq (xg 0 h1.2.1 39 33) 8 = true by rw [d33, k8]; rfl), trivial⟩ (fun hq => ?_)
    exact xq_ret rfl rfl rfl ⟨fx_w g1 (fun _ _ => sA0_w) (fun _ _ _ => rfl), fun _ => fx_w g1 (fun _ _ => sA0_x) (fun _ _ _ => rfl), fun z => absurd (Or.inl (by omega)) z⟩
  have c1 : xe_c .eq (xg 0 h1.2.1 39 33) 8 = false := by rw [d33]; exact xeq_f (by rw [nI_toInt (by omega)]; show ((sc : Nat) : Int) ≠ 8; omega)
  refine xq_n 30 [0, 1] [(0, .ref 39), (1, .int fd)] [.int 999, .int (xg 0 h1.2.1 39 3), .int fd] h1 [false] 10 hq rfl ⟨c1, trivial⟩ (fun hq => ?_)
  rw [d3]
  refine xq_run hq rfl rfl (isIn_q hq) ?_
  rintro v h2 ⟨rfl, rfl⟩
  cases b : decide ((nI td).toInt ≤ fd.toInt ∧ fd.toInt ≤ (999 : Int32).toInt) with
  | false =>
    have db := of_decide_eq_false b
    rw [tdi] at db
    have e9 : (999 : Int32).toInt = 999 := rfl
    rw [e9] at db
    refine xq_n 39 [] [] [.int (-1000)] h1 [false] 4 hq rfl ⟨rfl, trivial⟩ (fun hq => ?_)
    refine xq_ret rfl rfl rfl ⟨fx_w g1 (fun _ _ => sA0_w) (fun _ _ _ => rfl), fun _ => fx_w g1 (fun _ _ => sA0_x) (fun _ _ _ => rfl), fun z => absurd ?_ z⟩
    by_cases z1 : (td : Int) ≤ fd.toInt
    · exact Or.inr (Or.inr (by omega))
    · exact Or.inr (Or.inl (by omega))
  | true =>
    have db := of_decide_eq_true b
    rw [tdi] at db
    have e9 : (999 : Int32).toInt = 999 := rfl
    rw [e9] at db
    have nsr : ¬ sref sc td fd := by
      rintro (z | z | z) <;> omega
    obtain ⟨j, hX⟩ := hX nsr
    refine xq_n 61 [0, 1] [(0, .ref 39), (1, .int fd)] [.ref 39] (xh_ui (xh_ui (xh_ui (xh_ui h1 39 13 (Int32.ofInt 0)) 39 26 (Int32.ofInt 0)) 39 27 (Int32.ofInt 0)) 39 7 (Int32.ofInt 0)) [true] 16 hq rfl ⟨rfl, trivial⟩ (fun _ => ?_)
    have hq : a_rq a_tb (xh_ui (xh_ui (xh_ui (xh_ui h1 39 13 (Int32.ofInt 0)) 39 26 (Int32.ofInt 0)) 39 27 (Int32.ofInt 0)) 39 7 (Int32.ofInt 0)) := a_rq_ui (a_rq_ui (a_rq_ui (a_rq_ui hq)))
    have g2 : fx sA1 fN h1 (xh_ui (xh_ui (xh_ui (xh_ui h1 39 13 (Int32.ofInt 0)) 39 26 (Int32.ofInt 0)) 39 27 (Int32.ofInt 0)) 39 7 (Int32.ofInt 0)) := fx_ui (fx_ui (fx_ui (fx_ui fx_0 rfl) rfl) rfl) rfl
    have a33 := (fx_i (c := 39) (k := 33) g2 rfl).trans d33
    have a4 := (fx_i (c := 39) (k := 4) g2 rfl).trans d4
    have a6 := (fx_i (c := 39) (k := 6) g2 rfl).trans d6
    have a40 : ∀ k, k < n → T k < 256 ∧ xg 0 (xh_ui (xh_ui (xh_ui (xh_ui h1 39 13 (Int32.ofInt 0)) 39 26 (Int32.ofInt 0)) 39 27 (Int32.ofInt 0)) 39 7 (Int32.ofInt 0)).2.1 40 k = nI (T k) := fun k hk' => ⟨(d40 k hk').1, (fx_i (c := 40) (k := k) g2 rfl).trans (d40 k hk').2⟩
    have a7 : xg 0 (xh_ui (xh_ui (xh_ui (xh_ui h1 39 13 (Int32.ofInt 0)) 39 26 (Int32.ofInt 0)) 39 27 (Int32.ofInt 0)) 39 7 (Int32.ofInt 0)).2.1 39 7 = nI 0 := gx_s
    have a27 : xg 0 (xh_ui (xh_ui (xh_ui (xh_ui h1 39 13 (Int32.ofInt 0)) 39 26 (Int32.ofInt 0)) 39 27 (Int32.ofInt 0)) 39 7 (Int32.ofInt 0)).2.1 39 27 = nI 0 := (gx_k (by decide)).trans gx_s
    have a26 : xg 0 (xh_ui (xh_ui (xh_ui (xh_ui h1 39 13 (Int32.ofInt 0)) 39 26 (Int32.ofInt 0)) 39 27 (Int32.ofInt 0)) 39 7 (Int32.ofInt 0)).2.1 39 26 = nI 0 := (gx_k (by decide)).trans ((gx_k (by decide)).trans gx_s)
    have a13 : xg 0 (xh_ui (xh_ui (xh_ui (xh_ui h1 39 13 (Int32.ofInt 0)) 39 26 (Int32.ofInt 0)) 39 27 (Int32.ofInt 0)) 39 7 (Int32.ofInt 0)).2.1 39 13 = nI 0 := (gx_k (by decide)).trans ((gx_k (by decide)).trans ((gx_k (by decide)).trans gx_s))
    generalize xh_ui (xh_ui (xh_ui (xh_ui h1 39 13 (Int32.ofInt 0)) 39 26 (Int32.ofInt 0)) 39 27 (Int32.ofInt 0)) 39 7 (Int32.ofInt 0) = h2 at hq a33 a4 a6 a40 a7 a27 a26 a13 g2 ⊢
    have hr : rtp h2 T n := ⟨a6, n6, a40⟩
    refine xq_run hq rfl rfl (go_q hq hr a7 (Nat.zero_le _)) ?_
    rintro v h3 ⟨rfl, g3, t3⟩
    have hq := fx_q g3 hq
    have r0 : rq0 h3 T n mem 0 W 0 0 := ⟨rtp_f hr g3 rfl (fun _ => rfl), t3, (fx_i g3 rfl).trans a4, m12, ⟨(fx_i g3 rfl).trans a26, by decide, fun k hk' => absurd hk' (Nat.not_lt_zero k)⟩, (fx_i g3 rfl).trans a27, by decide, (fx_i g3 rfl).trans a13⟩
    have gh : fx (rW3 sc) rV h h3 := fx_t (fx_t (fx_w g1 (fun _ _ => sA0_w) (fun _ _ _ => rfl)) (fx_w g2 (fun _ _ => sA1_w) (fun _ _ _ => rfl))) (fx_w g3 (fun _ _ z => gS_r (rS_t (rT_u (rU_w2 (rW3_w z))))) (fun _ _ z => gL_v z))
    have gu : fx (fun c _ => Nat.beq c 39) rV h h3 := fx_t (fx_t (fx_w g1 (fun _ _ => sA0_u) (fun _ _ _ => rfl)) (fx_w g2 (fun _ _ => sA1_u) (fun _ _ _ => rfl))) (fx_w g3 (fun _ _ z => gS_u z) (fun _ _ z => gL_v z))
    have k3 : xg 0 h3.2.1 39 3 = nI td := (fx_i g3 rfl).trans ((fx_i g2 rfl).trans d3)
    have k45 : xg 0 h3.2.1 45 sv = bl one0 := (fx_i gu rfl).trans d45
    have M1 := st_642 (fd := fd) (h0 := h3) (by omega) j 0 0 0 W f h3 hX r0 hq fx_0 ((fx_i g3 rfl).trans a33)
    cases r with
    | inr e =>
      refine xq_mono M1 (fun v h' e => ⟨fx_t gh (fx_w e.1 (fun _ _ => rW3_w) (fun _ _ z => z)), fun z => absurd z nsr, fun _ => ⟨fun _ z => (by cases z), fun _ _ z => e.2.2 _ _ z⟩⟩)
    | inl m =>
      obtain ⟨j2, hT2⟩ := hV nsr m rfl
      refine xq_mono (xq_and M1 (st_64d (fd := fd) s4 (by omega) j2 0 0 0 W NV one0 f h3 hT2 r0 (fun k hk' => absurd hk' (Nat.not_lt_zero k)) k45 hq ((fx_i g3 rfl).trans a33))) (fun v h' e => ?_)
      refine ⟨fx_t gh (fx_w e.1.1 (fun _ _ => rW3_w) (fun _ _ z => z)), fun z => absurd z nsr, fun _ => ⟨fun _ _ => ?_, fun _ _ z => (by cases z)⟩⟩
      obtain ⟨q1, q2, q3⟩ := e.1.2.1 m rfl
      exact ⟨q1, q2, q3.trans k3, e.2⟩
end XDW
end
section
section XRU
def stk (h : xh_H) : List Int32 → Prop
  | [] => True
  | x :: σ => xg 0 h.2.1 7 σ.length = x ∧ stk h σ
theorem stk_u {h : xh_H} {k : Nat} {x : Int32} : ∀ {σ : List Int32}, σ.length ≤ k → stk h σ → stk (xh_ui h 7 k x) σ := by
  intro σ
  induction σ with
  | nil => intro _ _; trivial
  | cons y σ ih =>
    intro hk' s
    have hk' : σ.length + 1 ≤ k := hk'
    exact ⟨(gx_k (by omega)).trans s.1, ih (by omega) s.2⟩
def F7 (c _k : Nat) : Bool := Nat.beq c 7
theorem px1_i {sv nm v : Int32} {c : Nat} {σ : List Int32} {x : List Int32 × Int32} (h : px1 sv (c, v) (σ, nm) = some x) : (c = 0 ∧ σ.length < 64 ∧ x = (((sv >>> (v &&& 31)) &&& Int32.ofInt 1) :: σ, nm)) ∨ (c = 1 ∧ σ.length < 64 ∧ x = (((nm >>> (v &&& 31)) &&& Int32.ofInt 1) :: σ, nm)) ∨ (c = 4 ∧ σ.length < 64 ∧ x = (Int32.ofInt 0 :: σ, nm)) ∨ (∃ a b ρ, σ = a :: b :: ρ ∧ ((c = 2 ∧ x = ((b &&& a) :: ρ, nm)) ∨ (c = 3 ∧ x = ((b ||| a) :: ρ, nm)) ∨ (c = 5 ∧ x = ((b + a * v) :: ρ, nm)))) ∨ ∃ a ρ, σ = a :: ρ ∧ ((c = 6 ∧ x = (bl (xe_c .ge a v) :: ρ, nm)) ∨ (c = 7 ∧ x = (ρ, nm ||| (a <<< (v &&& 31))))) := by
  unfold px1 at h
  split at h
  · rename_i e1 e2; cases e2
    split at h
    · cases h; exact Or.inl ⟨e1, by assumption, rfl⟩
    · cases h
  · rename_i e1 e2; cases e2
    split at h
    · cases h; exact Or.inr (Or.inl ⟨e1, by assumption, rfl⟩)
    · cases h
  · rename_i e1 e2; cases e2; cases h; exact Or.inr (Or.inr (Or.inr (Or.inl ⟨_, _, _, rfl, Or.inl ⟨e1, rfl⟩⟩)))
  · rename_i e1 e2; cases e2; cases h; exact Or.inr (Or.inr (Or.inr (Or.inl ⟨_, _, _, rfl, Or.inr (Or.inl ⟨e1, rfl⟩)⟩)))
  · rename_i e1 e2; cases e2
    split at h
    · cases h; exact Or.inr (Or.inr (Or.inl ⟨e1, by assumption, rfl⟩))
    · cases h
  · rename_i e1 e2; cases e2; cases h; exact Or.inr (Or.inr (Or.inr (Or.inl ⟨_, _, _, rfl, Or.inr (Or.inr ⟨e1, rfl⟩)⟩)))
  · rename_i e1 e2; cases e2; cases h; exact Or.inr (Or.inr (Or.inr (Or.inr ⟨_, _, rfl, Or.inl ⟨e1, rfl⟩⟩)))
  · rename_i e1 e2; cases e2; cases h; exact Or.inr (Or.inr (Or.inr (Or.inr ⟨_, _, rfl, Or.inr ⟨e1, rfl⟩⟩)))
  · cases h
theorem px_c {sv : Int32} {q : Nat × Int32} {c : cdL} {x z : List Int32 × Int32} (h : px sv (q :: c) x = some z) : ∃ w, px1 sv q x = some w ∧ px sv c w = some z := by
  have h : (px1 sv q x).bind (px sv c) = some z := h
  cases e : px1 sv q x with
  | none => rw [e] at h; cases h
  | some w => rw [e] at h; exact ⟨w, rfl, h⟩
theorem nI_d2 {m : Nat} : nI (m + 2) + Int32.ofInt (-1) = nI (m + 1) := nI_dec (m + 1)
set_option maxRecDepth 100000 in
set_option maxHeartbeats 4000000 in
theorem jn2_q {f : Nat} {x y z : Int32} {h : xh_H} (hq : a_rq a_tb h) : xq f xi_X3_join xmi_X3_join 0 [(0, .int 2), (1, .int x), (2, .int y), (3, .int z)] [] h (fun v h' => h = h' ∧ v = some (.int (x &&& y))) := by
  refine xq_n 8 [] [] [.int (x &&& y)] h [false] 8 hq rfl ⟨(by decide), trivial⟩ (fun hq => ?_)
  exact xq_ret rfl rfl rfl ⟨rfl, rfl⟩
set_option maxRecDepth 100000 in
set_option maxHeartbeats 4000000 in
theorem jn3_q {f : Nat} {x y z : Int32} {h : xh_H} (hq : a_rq a_tb h) : xq f xi_X3_join xmi_X3_join 0 [(0, .int 3), (1, .int x), (2, .int y), (3, .int z)] [] h (fun v h' => h = h' ∧ v = some (.int (x ||| y))) := by
  refine xq_n 25 [] [] [.int (x ||| y)] h [true, false] 12 hq rfl ⟨(by decide), (by decide), trivial⟩ (fun hq => ?_)
  exact xq_ret rfl rfl rfl ⟨rfl, rfl⟩
set_option maxRecDepth 100000 in
set_option maxHeartbeats 4000000 in
theorem jn5_q {f : Nat} {x y z : Int32} {h : xh_H} (hq : a_rq a_tb h) : xq f xi_X3_join xmi_X3_join 0 [(0, .int 5), (1, .int x), (2, .int y), (3, .int z)] [] h (fun v h' => h = h' ∧ v = some (.int (x + y * z))) := by
  refine xq_n 25 [] [] [.int (x + (y * z))] h [true, true] 13 hq rfl ⟨(by decide), (by decide), trivial⟩ (fun hq => ?_)
  exact xq_ret rfl rfl rfl ⟨rfl, rfl⟩
set_option maxRecDepth 100000 in
set_option maxHeartbeats 4000000 in
theorem run_0 {g i m : Nat} {sv nm v : Int32} {P : cdL} {σ : List Int32} {h hb : xh_H} {Q : Option Value → xh_H → Prop} (hq : a_rq a_tb h) (ge : fx F7 fN hb h) (pt : ptx h P) (hi : i < P.length) (l4 : P.length < 400) (hc : xg 0 h.2.1 5 i = 0 ∧ xg 0 h.2.1 6 i = v) (hm : σ.length = m) (m64 : m < 64) (ss : stk h σ) (K : ∀ h', a_rq a_tb h' → fx F7 fN hb h' → ptx h' P → stk h' (((sv >>> (v &&& 31)) &&& Int32.ofInt 1) :: σ) → xq g xi_X3_run xmi_X3_run 7 [(0, .ref 4), (1, .int sv), (2, .int nm), (3, .int (nI (m + 1))), (4, .int (nI (i + 1)))] [] h' Q) : xq (g + 1) xi_X3_run xmi_X3_run 7 [(0, .ref 4), (1, .int sv), (2, .int nm), (3, .int (nI m)), (4, .int (nI i))] [] h Q := by
  cases c1 : xe_c .ge (nI i) (nI (P.length)) with
  | true =>
    have z1 : i ≥ (P.length) := nq_get (a := i) (b := (P.length)) (by omega) (by omega) c1
    omega
  | false =>
    have z1 : i < (P.length) := nq_gef (a := i) (b := (P.length)) (by omega) (by omega) c1
    refine xq_m 82 [0, 1, 2, 3, 4, 5, 6, 7] [(0, .ref 4), (1, .int sv), (2, .int nm), (3, .int (nI m)), (4, .int (nI i)), (5, .int (xg 0 h.2.1 5 ((nI i).toNatClampNeg))), (6, .int (xg 0 h.2.1 6 ((nI i).toNatClampNeg))), (7, .int ((sv >>> ((xg 0 h.2.1 6 ((nI i).toNatClampNeg)) &&& 31)) &&& (Int32.ofInt 1)))] [.int ((sv >>> ((xg 0 h.2.1 6 ((nI i).toNatClampNeg)) &&& 31)) &&& (Int32.ofInt 1)), .int (nI m), .ref 4] h [false, true, true, false] 33 hq rfl ⟨(show xe_c .ge (nI i) (xg 0 h.2.1 4 3) = false by rw [show (xg 0 h.2.1 4 3) = (nI (P.length)) from pt.1]; exact c1), (show xe_c .eq (xg 0 h.2.1 5 ((nI i).toNatClampNeg)) 0 = true by rw [show (xg 0 h.2.1 5 ((nI i).toNatClampNeg)) = 0 from (by rw [show ((nI i).toNatClampNeg) = i from nI_clamp (by omega)]; exact hc.1)]; rfl), (show xe_c .ne (xg 0 h.2.1 5 ((nI i).toNatClampNeg)) (Int32.ofInt 4) = true by rw [show (xg 0 h.2.1 5 ((nI i).toNatClampNeg)) = 0 from (by rw [show ((nI i).toNatClampNeg) = i from nI_clamp (by omega)]; exact hc.1)]; rfl), (show xe_c .ne (xg 0 h.2.1 5 ((nI i).toNatClampNeg)) 0 = false by rw [show (xg 0 h.2.1 5 ((nI i).toNatClampNeg)) = 0 from (by rw [show ((nI i).toNatClampNeg) = i from nI_clamp (by omega)]; exact hc.1)]; rfl), trivial⟩ (fun hq => ?_)
    rw [show (xg 0 h.2.1 5 ((nI i).toNatClampNeg)) = 0 from (by rw [show ((nI i).toNatClampNeg) = i from nI_clamp (by omega)]; exact hc.1)]
    rw [show (xg 0 h.2.1 6 ((nI i).toNatClampNeg)) = v from (by rw [show ((nI i).toNatClampNeg) = i from nI_clamp (by omega)]; exact hc.2)]
    refine xq_run hq rfl rfl (psh_q (d := m) (Nat.zero_le _) (by omega) hq) ?_
    rintro v2 h2 ⟨rfl, rfl⟩
    have hq : a_rq a_tb (xh_ui h 7 m ((sv >>> ((v) &&& 31)) &&& (Int32.ofInt 1))) := a_rq_ui hq
    refine xq_n 7 [0, 1, 2, 3, 4] [(0, .ref 4), (1, .int sv), (2, .int nm), (3, .int (nI (m + 1))), (4, .int ((nI i) + Int32.ofInt 1))] [] (xh_ui h 7 m ((sv >>> ((v) &&& 31)) &&& (Int32.ofInt 1))) [] 6 hq rfl trivial (fun hq => ?_)
    rw [show ((nI i) + Int32.ofInt 1) = nI (i + 1) from nI_1 _]
    exact K _ hq (fx_ui (ge) rfl) (ptx_f (S := fun c _ => Nat.beq c 7) (L := fN) (pt) (fx_ui fx_0 rfl) rfl (fun _ => rfl) (fun _ => rfl)) (⟨by rw [hm]; exact gx_s, stk_u (by omega) ss⟩)
set_option maxRecDepth 100000 in
set_option maxHeartbeats 4000000 in
theorem run_1 {g i m : Nat} {sv nm v : Int32} {P : cdL} {σ : List Int32} {h hb : xh_H} {Q : Option Value → xh_H → Prop} (hq : a_rq a_tb h) (ge : fx F7 fN hb h) (pt : ptx h P) (hi : i < P.length) (l4 : P.length < 400) (hc : xg 0 h.2.1 5 i = 1 ∧ xg 0 h.2.1 6 i = v) (hm : σ.length = m) (m64 : m < 64) (ss : stk h σ) (K : ∀ h', a_rq a_tb h' → fx F7 fN hb h' → ptx h' P → stk h' (((nm >>> (v &&& 31)) &&& Int32.ofInt 1) :: σ) → xq g xi_X3_run xmi_X3_run 7 [(0, .ref 4), (1, .int sv), (2, .int nm), (3, .int (nI (m + 1))), (4, .int (nI (i + 1)))] [] h' Q) : xq (g + 1) xi_X3_run xmi_X3_run 7 [(0, .ref 4), (1, .int sv), (2, .int nm), (3, .int (nI m)), (4, .int (nI i))] [] h Q := by
  cases c1 : xe_c .ge (nI i) (nI (P.length)) with
  | true =>
    have z1 : i ≥ (P.length) := nq_get (a := i) (b := (P.length)) (by omega) (by omega) c1
    omega
  | false =>
    have z1 : i < (P.length) := nq_gef (a := i) (b := (P.length)) (by omega) (by omega) c1
    refine xq_m 82 [0, 1, 2, 3, 4, 5, 6, 7] [(0, .ref 4), (1, .int sv), (2, .int nm), (3, .int (nI m)), (4, .int (nI i)), (5, .int (xg 0 h.2.1 5 ((nI i).toNatClampNeg))), (6, .int (xg 0 h.2.1 6 ((nI i).toNatClampNeg))), (7, .int ((nm >>> ((xg 0 h.2.1 6 ((nI i).toNatClampNeg)) &&& 31)) &&& (Int32.ofInt 1)))] [.int ((nm >>> ((xg 0 h.2.1 6 ((nI i).toNatClampNeg)) &&& 31)) &&& (Int32.ofInt 1)), .int (nI m), .ref 4] h [false, false, true, true, true] 35 hq rfl ⟨(show xe_c .ge (nI i) (xg 0 h.2.1 4 3) = false by rw [show (xg 0 h.2.1 4 3) = (nI (P.length)) from pt.1]; exact c1), (show xe_c .eq (xg 0 h.2.1 5 ((nI i).toNatClampNeg)) 0 = false by rw [show (xg 0 h.2.1 5 ((nI i).toNatClampNeg)) = 1 from (by rw [show ((nI i).toNatClampNeg) = i from nI_clamp (by omega)]; exact hc.1)]; rfl), (show xe_c .eq (xg 0 h.2.1 5 ((nI i).toNatClampNeg)) (Int32.ofInt 1) = true by rw [show (xg 0 h.2.1 5 ((nI i).toNatClampNeg)) = 1 from (by rw [show ((nI i).toNatClampNeg) = i from nI_clamp (by omega)]; exact hc.1)]; rfl), (show xe_c .ne (xg 0 h.2.1 5 ((nI i).toNatClampNeg)) (Int32.ofInt 4) = true by rw [show (xg 0 h.2.1 5 ((nI i).toNatClampNeg)) = 1 from (by rw [show ((nI i).toNatClampNeg) = i from nI_clamp (by omega)]; exact hc.1)]; rfl), (show xe_c .ne (xg 0 h.2.1 5 ((nI i).toNatClampNeg)) 0 = true by rw [show (xg 0 h.2.1 5 ((nI i).toNatClampNeg)) = 1 from (by rw [show ((nI i).toNatClampNeg) = i from nI_clamp (by omega)]; exact hc.1)]; rfl), trivial⟩ (fun hq => ?_)
    rw [show (xg 0 h.2.1 5 ((nI i).toNatClampNeg)) = 1 from (by rw [show ((nI i).toNatClampNeg) = i from nI_clamp (by omega)]; exact hc.1)]
    rw [show (xg 0 h.2.1 6 ((nI i).toNatClampNeg)) = v from (by rw [show ((nI i).toNatClampNeg) = i from nI_clamp (by omega)]; exact hc.2)]
    refine xq_run hq rfl rfl (psh_q (d := m) (Nat.zero_le _) (by omega) hq) ?_
    rintro v2 h2 ⟨rfl, rfl⟩
    have hq : a_rq a_tb (xh_ui h 7 m ((nm >>> ((v) &&& 31)) &&& (Int32.ofInt 1))) := a_rq_ui hq
    refine xq_n 7 [0, 1, 2, 3, 4] [(0, .ref 4), (1, .int sv), (2, .int nm), (3, .int (nI (m + 1))), (4, .int ((nI i) + Int32.ofInt 1))] [] (xh_ui h 7 m ((nm >>> ((v) &&& 31)) &&& (Int32.ofInt 1))) [] 6 hq rfl trivial (fun hq => ?_)
    rw [show ((nI i) + Int32.ofInt 1) = nI (i + 1) from nI_1 _]
    exact K _ hq (fx_ui (ge) rfl) (ptx_f (S := fun c _ => Nat.beq c 7) (L := fN) (pt) (fx_ui fx_0 rfl) rfl (fun _ => rfl) (fun _ => rfl)) (⟨by rw [hm]; exact gx_s, stk_u (by omega) ss⟩)
set_option maxRecDepth 100000 in
set_option maxHeartbeats 4000000 in
theorem run_4 {g i m : Nat} {sv nm v : Int32} {P : cdL} {σ : List Int32} {h hb : xh_H} {Q : Option Value → xh_H → Prop} (hq : a_rq a_tb h) (ge : fx F7 fN hb h) (pt : ptx h P) (hi : i < P.length) (l4 : P.length < 400) (hc : xg 0 h.2.1 5 i = 4 ∧ xg 0 h.2.1 6 i = v) (hm : σ.length = m) (m64 : m < 64) (ss : stk h σ) (K : ∀ h', a_rq a_tb h' → fx F7 fN hb h' → ptx h' P → stk h' (Int32.ofInt 0 :: σ) → xq g xi_X3_run xmi_X3_run 7 [(0, .ref 4), (1, .int sv), (2, .int nm), (3, .int (nI (m + 1))), (4, .int (nI (i + 1)))] [] h' Q) : xq (g + 1) xi_X3_run xmi_X3_run 7 [(0, .ref 4), (1, .int sv), (2, .int nm), (3, .int (nI m)), (4, .int (nI i))] [] h Q := by
  cases c1 : xe_c .ge (nI i) (nI (P.length)) with
  | true =>
    have z1 : i ≥ (P.length) := nq_get (a := i) (b := (P.length)) (by omega) (by omega) c1
    omega
  | false =>
    have z1 : i < (P.length) := nq_gef (a := i) (b := (P.length)) (by omega) (by omega) c1
    refine xq_m 82 [0, 1, 2, 3, 4, 5, 6, 7] [(0, .ref 4), (1, .int sv), (2, .int nm), (3, .int (nI m)), (4, .int (nI i)), (5, .int (xg 0 h.2.1 5 ((nI i).toNatClampNeg))), (6, .int (xg 0 h.2.1 6 ((nI i).toNatClampNeg))), (7, .int (Int32.ofInt 0))] [.int (Int32.ofInt 0), .int (nI m), .ref 4] h [false, false, false, false, false] 33 hq rfl ⟨(show xe_c .ge (nI i) (xg 0 h.2.1 4 3) = false by rw [show (xg 0 h.2.1 4 3) = (nI (P.length)) from pt.1]; exact c1), (show xe_c .eq (xg 0 h.2.1 5 ((nI i).toNatClampNeg)) 0 = false by rw [show (xg 0 h.2.1 5 ((nI i).toNatClampNeg)) = 4 from (by rw [show ((nI i).toNatClampNeg) = i from nI_clamp (by omega)]; exact hc.1)]; rfl), (show xe_c .eq (xg 0 h.2.1 5 ((nI i).toNatClampNeg)) (Int32.ofInt 1) = false by rw [show (xg 0 h.2.1 5 ((nI i).toNatClampNeg)) = 4 from (by rw [show ((nI i).toNatClampNeg) = i from nI_clamp (by omega)]; exact hc.1)]; rfl), (show xe_c .ne (xg 0 h.2.1 5 ((nI i).toNatClampNeg)) (Int32.ofInt 4) = false by rw [show (xg 0 h.2.1 5 ((nI i).toNatClampNeg)) = 4 from (by rw [show ((nI i).toNatClampNeg) = i from nI_clamp (by omega)]; exact hc.1)]; rfl), (show xe_c .ne (xg 0 h.2.1 5 ((nI i).toNatClampNeg)) (Int32.ofInt 4) = false by rw [show (xg 0 h.2.1 5 ((nI i).toNatClampNeg)) = 4 from (by rw [show ((nI i).toNatClampNeg) = i from nI_clamp (by omega)]; exact hc.1)]; rfl), trivial⟩ (fun hq => ?_)
    rw [show (xg 0 h.2.1 5 ((nI i).toNatClampNeg)) = 4 from (by rw [show ((nI i).toNatClampNeg) = i from nI_clamp (by omega)]; exact hc.1)]
    rw [show (xg 0 h.2.1 6 ((nI i).toNatClampNeg)) = v from (by rw [show ((nI i).toNatClampNeg) = i from nI_clamp (by omega)]; exact hc.2)]
    refine xq_run hq rfl rfl (psh_q (d := m) (Nat.zero_le _) (by omega) hq) ?_
    rintro v2 h2 ⟨rfl, rfl⟩
    have hq : a_rq a_tb (xh_ui h 7 m (Int32.ofInt 0)) := a_rq_ui hq
    refine xq_n 7 [0, 1, 2, 3, 4] [(0, .ref 4), (1, .int sv), (2, .int nm), (3, .int (nI (m + 1))), (4, .int ((nI i) + Int32.ofInt 1))] [] (xh_ui h 7 m (Int32.ofInt 0)) [] 6 hq rfl trivial (fun hq => ?_)
    rw [show ((nI i) + Int32.ofInt 1) = nI (i + 1) from nI_1 _]
    exact K _ hq (fx_ui (ge) rfl) (ptx_f (S := fun c _ => Nat.beq c 7) (L := fN) (pt) (fx_ui fx_0 rfl) rfl (fun _ => rfl) (fun _ => rfl)) (⟨by rw [hm]; exact gx_s, stk_u (by omega) ss⟩)
set_option maxRecDepth 100000 in
set_option maxHeartbeats 4000000 in
theorem run_2 {g i m : Nat} {sv nm v a b : Int32} {P : cdL} {ρ : List Int32} {h hb : xh_H} {Q : Option Value → xh_H → Prop} (hq : a_rq a_tb h) (ge : fx F7 fN hb h) (pt : ptx h P) (hi : i < P.length) (l4 : P.length < 400) (hc : xg 0 h.2.1 5 i = 2 ∧ xg 0 h.2.1 6 i = v) (hm : ρ.length = m) (m64 : m + 2 ≤ 64) (ss : stk h (a :: b :: ρ)) (K : ∀ h', a_rq a_tb h' → fx F7 fN hb h' → ptx h' P → stk h' ((b &&& a) :: ρ) → xq g xi_X3_run xmi_X3_run 7 [(0, .ref 4), (1, .int sv), (2, .int nm), (3, .int (nI (m + 1))), (4, .int (nI (i + 1)))] [] h' Q) : xq (g + 1) xi_X3_run xmi_X3_run 7 [(0, .ref 4), (1, .int sv), (2, .int nm), (3, .int (nI (m + 2))), (4, .int (nI i))] [] h Q := by
  cases c1 : xe_c .ge (nI i) (nI (P.length)) with
  | true =>
    have z1 : i ≥ (P.length) := nq_get (a := i) (b := (P.length)) (by omega) (by omega) c1
    omega
  | false =>
    have z1 : i < (P.length) := nq_gef (a := i) (b := (P.length)) (by omega) (by omega) c1
    refine xq_m 121 [0, 1, 2, 3, 4, 5, 6] [(0, .ref 4), (1, .int sv), (2, .int nm), (3, .int (nI (m + 2))), (4, .int (nI i)), (5, .int (xg 0 h.2.1 5 ((nI i).toNatClampNeg))), (6, .int (xg 0 h.2.1 6 ((nI i).toNatClampNeg)))] [.int (nI (m + 2)), .ref 4] h [false, false, false, true, true] 29 hq rfl ⟨(show xe_c .ge (nI i) (xg 0 h.2.1 4 3) = false by rw [show (xg 0 h.2.1 4 3) = (nI (P.length)) from pt.1]; exact c1), (show xe_c .eq (xg 0 h.2.1 5 ((nI i).toNatClampNeg)) 0 = false by rw [show (xg 0 h.2.1 5 ((nI i).toNatClampNeg)) = 2 from (by rw [show ((nI i).toNatClampNeg) = i from nI_clamp (by omega)]; exact hc.1)]; rfl), (show xe_c .eq (xg 0 h.2.1 5 ((nI i).toNatClampNeg)) (Int32.ofInt 1) = false by rw [show (xg 0 h.2.1 5 ((nI i).toNatClampNeg)) = 2 from (by rw [show ((nI i).toNatClampNeg) = i from nI_clamp (by omega)]; exact hc.1)]; rfl), (show xe_c .ne (xg 0 h.2.1 5 ((nI i).toNatClampNeg)) (Int32.ofInt 4) = true by rw [show (xg 0 h.2.1 5 ((nI i).toNatClampNeg)) = 2 from (by rw [show ((nI i).toNatClampNeg) = i from nI_clamp (by omega)]; exact hc.1)]; rfl), (show xe_c .ne (xg 0 h.2.1 5 ((nI i).toNatClampNeg)) 6 = true by rw [show (xg 0 h.2.1 5 ((nI i).toNatClampNeg)) = 2 from (by rw [show ((nI i).toNatClampNeg) = i from nI_clamp (by omega)]; exact hc.1)]; rfl), trivial⟩ (fun hq => ?_)
    rw [show (xg 0 h.2.1 5 ((nI i).toNatClampNeg)) = 2 from (by rw [show ((nI i).toNatClampNeg) = i from nI_clamp (by omega)]; exact hc.1)]
    rw [show (xg 0 h.2.1 6 ((nI i).toNatClampNeg)) = v from (by rw [show ((nI i).toNatClampNeg) = i from nI_clamp (by omega)]; exact hc.2)]
    refine xq_run hq rfl rfl (pek_q (d := (m + 2)) (by omega) (by omega) hq) ?_
    rintro v2 h2 ⟨rfl, rfl⟩
    rw [show xg 0 h.2.1 7 ((m + 2) - 1) = a from ((hm ▸ ss.1))]
    refine xq_n 153 [0, 1, 2, 3, 4, 5, 6, 7] [(0, .ref 4), (1, .int sv), (2, .int nm), (3, .int ((nI (m + 2)) + Int32.ofInt (-1))), (4, .int (nI i)), (5, .int 2), (6, .int v), (7, .int a)] [.int ((nI (m + 2)) + Int32.ofInt (-1)), .ref 4, .int 2, .int ((nI (m + 2)) + Int32.ofInt (-1)), .ref 4] h [true] 12 hq rfl ⟨(by decide), trivial⟩ (fun hq => ?_)
    rw [show ((nI (m + 2)) + Int32.ofInt (-1)) = nI (m + 1) from nI_d2]
    refine xq_run hq rfl rfl (pek_q (d := (m + 1)) (by omega) (by omega) hq) ?_
    rintro v3 h3 ⟨rfl, rfl⟩
    rw [show xg 0 h.2.1 7 ((m + 1) - 1) = b from ((hm ▸ ss.2.1))]
    refine xq_n 160 [0, 1, 2, 3, 4, 5, 6, 7] [(0, .ref 4), (1, .int sv), (2, .int nm), (3, .int (nI (m + 1))), (4, .int (nI i)), (5, .int 2), (6, .int v), (7, .int a)] [.int v, .int a, .int b, .int 2, .int (nI (m + 1)), .ref 4] h [] 4 hq rfl trivial (fun hq => ?_)
    refine xq_run hq rfl rfl (jn2_q hq) ?_
    rintro v4 h_v4 ⟨rfl, rfl⟩
    refine xq_run hq rfl rfl (rpl_q (d := (m + 1)) (by omega) (by omega) hq) ?_
    rintro v5 h5 ⟨rfl, rfl⟩
    rw [show (m + 1) - 1 = m from rfl]
    have hq : a_rq a_tb (xh_ui h 7 m (b &&& a)) := a_rq_ui hq
    refine xq_n 7 [0, 1, 2, 3, 4] [(0, .ref 4), (1, .int sv), (2, .int nm), (3, .int (nI (m + 1))), (4, .int ((nI i) + Int32.ofInt 1))] [] (xh_ui h 7 m (b &&& a)) [] 4 hq rfl trivial (fun hq => ?_)
    rw [show ((nI i) + Int32.ofInt 1) = nI (i + 1) from nI_1 _]
    exact K _ hq (fx_ui (ge) rfl) (ptx_f (S := fun c _ => Nat.beq c 7) (L := fN) (pt) (fx_ui fx_0 rfl) rfl (fun _ => rfl) (fun _ => rfl)) (⟨by rw [hm]; exact gx_s, stk_u (by omega) ss.2.2⟩)
set_option maxRecDepth 100000 in
set_option maxHeartbeats 4000000 in
theorem run_3 {g i m : Nat} {sv nm v a b : Int32} {P : cdL} {ρ : List Int32} {h hb : xh_H} {Q : Option Value → xh_H → Prop} (hq : a_rq a_tb h) (ge : fx F7 fN hb h) (pt : ptx h P) (hi : i < P.length) (l4 : P.length < 400) (hc : xg 0 h.2.1 5 i = 3 ∧ xg 0 h.2.1 6 i = v) (hm : ρ.length = m) (m64 : m + 2 ≤ 64) (ss : stk h (a :: b :: ρ)) (K : ∀ h', a_rq a_tb h' → fx F7 fN hb h' → ptx h' P → stk h' ((b ||| a) :: ρ) → xq g xi_X3_run xmi_X3_run 7 [(0, .ref 4), (1, .int sv), (2, .int nm), (3, .int (nI (m + 1))), (4, .int (nI (i + 1)))] [] h' Q) : xq (g + 1) xi_X3_run xmi_X3_run 7 [(0, .ref 4), (1, .int sv), (2, .int nm), (3, .int (nI (m + 2))), (4, .int (nI i))] [] h Q := by
  cases c1 : xe_c .ge (nI i) (nI (P.length)) with
  | true =>
    have z1 : i ≥ (P.length) := nq_get (a := i) (b := (P.length)) (by omega) (by omega) c1
    omega
  | false =>
    have z1 : i < (P.length) := nq_gef (a := i) (b := (P.length)) (by omega) (by omega) c1
    refine xq_m 121 [0, 1, 2, 3, 4, 5, 6] [(0, .ref 4), (1, .int sv), (2, .int nm), (3, .int (nI (m + 2))), (4, .int (nI i)), (5, .int (xg 0 h.2.1 5 ((nI i).toNatClampNeg))), (6, .int (xg 0 h.2.1 6 ((nI i).toNatClampNeg)))] [.int (nI (m + 2)), .ref 4] h [false, false, false, true, true] 29 hq rfl ⟨(show xe_c .ge (nI i) (xg 0 h.2.1 4 3) = false by rw [show (xg 0 h.2.1 4 3) = (nI (P.length)) from pt.1]; exact c1), (show xe_c .eq (xg 0 h.2.1 5 ((nI i).toNatClampNeg)) 0 = false by rw [show (xg 0 h.2.1 5 ((nI i).toNatClampNeg)) = 3 from (by rw [show ((nI i).toNatClampNeg) = i from nI_clamp (by omega)]; exact hc.1)]; rfl), (show xe_c .eq (xg 0 h.2.1 5 ((nI i).toNatClampNeg)) (Int32.ofInt 1) = false by rw [show (xg 0 h.2.1 5 ((nI i).toNatClampNeg)) = 3 from (by rw [show ((nI i).toNatClampNeg) = i from nI_clamp (by omega)]; exact hc.1)]; rfl), (show xe_c .ne (xg 0 h.2.1 5 ((nI i).toNatClampNeg)) (Int32.ofInt 4) = true by rw [show (xg 0 h.2.1 5 ((nI i).toNatClampNeg)) = 3 from (by rw [show ((nI i).toNatClampNeg) = i from nI_clamp (by omega)]; exact hc.1)]; rfl), (show xe_c .ne (xg 0 h.2.1 5 ((nI i).toNatClampNeg)) 6 = true by rw [show (xg 0 h.2.1 5 ((nI i).toNatClampNeg)) = 3 from (by rw [show ((nI i).toNatClampNeg) = i from nI_clamp (by omega)]; exact hc.1)]; rfl), trivial⟩ (fun hq => ?_)
    rw [show (xg 0 h.2.1 5 ((nI i).toNatClampNeg)) = 3 from (by rw [show ((nI i).toNatClampNeg) = i from nI_clamp (by omega)]; exact hc.1)]
    rw [show (xg 0 h.2.1 6 ((nI i).toNatClampNeg)) = v from (by rw [show ((nI i).toNatClampNeg) = i from nI_clamp (by omega)]; exact hc.2)]
    refine xq_run hq rfl rfl (pek_q (d := (m + 2)) (by omega) (by omega) hq) ?_
    rintro v2 h2 ⟨rfl, rfl⟩
    rw [show xg 0 h.2.1 7 ((m + 2) - 1) = a from ((hm ▸ ss.1))]
    refine xq_n 153 [0, 1, 2, 3, 4, 5, 6, 7] [(0, .ref 4), (1, .int sv), (2, .int nm), (3, .int ((nI (m + 2)) + Int32.ofInt (-1))), (4, .int (nI i)), (5, .int 3), (6, .int v), (7, .int a)] [.int ((nI (m + 2)) + Int32.ofInt (-1)), .ref 4, .int 3, .int ((nI (m + 2)) + Int32.ofInt (-1)), .ref 4] h [true] 12 hq rfl ⟨(by decide), trivial⟩ (fun hq => ?_)
    rw [show ((nI (m + 2)) + Int32.ofInt (-1)) = nI (m + 1) from nI_d2]
    refine xq_run hq rfl rfl (pek_q (d := (m + 1)) (by omega) (by omega) hq) ?_
    rintro v3 h3 ⟨rfl, rfl⟩
    rw [show xg 0 h.2.1 7 ((m + 1) - 1) = b from ((hm ▸ ss.2.1))]
    refine xq_n 160 [0, 1, 2, 3, 4, 5, 6, 7] [(0, .ref 4), (1, .int sv), (2, .int nm), (3, .int (nI (m + 1))), (4, .int (nI i)), (5, .int 3), (6, .int v), (7, .int a)] [.int v, .int a, .int b, .int 3, .int (nI (m + 1)), .ref 4] h [] 4 hq rfl trivial (fun hq => ?_)
    refine xq_run hq rfl rfl (jn3_q hq) ?_
    rintro v4 h_v4 ⟨rfl, rfl⟩
    refine xq_run hq rfl rfl (rpl_q (d := (m + 1)) (by omega) (by omega) hq) ?_
    rintro v5 h5 ⟨rfl, rfl⟩
    rw [show (m + 1) - 1 = m from rfl]
    have hq : a_rq a_tb (xh_ui h 7 m (b ||| a)) := a_rq_ui hq
    refine xq_n 7 [0, 1, 2, 3, 4] [(0, .ref 4), (1, .int sv), (2, .int nm), (3, .int (nI (m + 1))), (4, .int ((nI i) + Int32.ofInt 1))] [] (xh_ui h 7 m (b ||| a)) [] 4 hq rfl trivial (fun hq => ?_)
    rw [show ((nI i) + Int32.ofInt 1) = nI (i + 1) from nI_1 _]
    exact K _ hq (fx_ui (ge) rfl) (ptx_f (S := fun c _ => Nat.beq c 7) (L := fN) (pt) (fx_ui fx_0 rfl) rfl (fun _ => rfl) (fun _ => rfl)) (⟨by rw [hm]; exact gx_s, stk_u (by omega) ss.2.2⟩)
set_option maxRecDepth 100000 in
set_option maxHeartbeats 4000000 in
theorem run_5 {g i m : Nat} {sv nm v a b : Int32} {P : cdL} {ρ : List Int32} {h hb : xh_H} {Q : Option Value → xh_H → Prop} (hq : a_rq a_tb h) (ge : fx F7 fN hb h) (pt : ptx h P) (hi : i < P.length) (l4 : P.length < 400) (hc : xg 0 h.2.1 5 i = 5 ∧ xg 0 h.2.1 6 i = v) (hm : ρ.length = m) (m64 : m + 2 ≤ 64) (ss : stk h (a :: b :: ρ)) (K : ∀ h', a_rq a_tb h' → fx F7 fN hb h' → ptx h' P → stk h' ((b + a * v) :: ρ) → xq g xi_X3_run xmi_X3_run 7 [(0, .ref 4), (1, .int sv), (2, .int nm), (3, .int (nI (m + 1))), (4, .int (nI (i + 1)))] [] h' Q) : xq (g + 1) xi_X3_run xmi_X3_run 7 [(0, .ref 4), (1, .int sv), (2, .int nm), (3, .int (nI (m + 2))), (4, .int (nI i))] [] h Q := by
  cases c1 : xe_c .ge (nI i) (nI (P.length)) with
  | true =>
    have z1 : i ≥ (P.length) := nq_get (a := i) (b := (P.length)) (by omega) (by omega) c1
    omega
  | false =>
    have z1 : i < (P.length) := nq_gef (a := i) (b := (P.length)) (by omega) (by omega) c1
    refine xq_m 121 [0, 1, 2, 3, 4, 5, 6] [(0, .ref 4), (1, .int sv), (2, .int nm), (3, .int (nI (m + 2))), (4, .int (nI i)), (5, .int (xg 0 h.2.1 5 ((nI i).toNatClampNeg))), (6, .int (xg 0 h.2.1 6 ((nI i).toNatClampNeg)))] [.int (nI (m + 2)), .ref 4] h [false, false, false, true, true] 29 hq rfl ⟨(show xe_c .ge (nI i) (xg 0 h.2.1 4 3) = false by rw [show (xg 0 h.2.1 4 3) = (nI (P.length)) from pt.1]; exact c1), (show xe_c .eq (xg 0 h.2.1 5 ((nI i).toNatClampNeg)) 0 = false by rw [show (xg 0 h.2.1 5 ((nI i).toNatClampNeg)) = 5 from (by rw [show ((nI i).toNatClampNeg) = i from nI_clamp (by omega)]; exact hc.1)]; rfl), (show xe_c .eq (xg 0 h.2.1 5 ((nI i).toNatClampNeg)) (Int32.ofInt 1) = false by rw [show (xg 0 h.2.1 5 ((nI i).toNatClampNeg)) = 5 from (by rw [show ((nI i).toNatClampNeg) = i from nI_clamp (by omega)]; exact hc.1)]; rfl), (show xe_c .ne (xg 0 h.2.1 5 ((nI i).toNatClampNeg)) (Int32.ofInt 4) = true by rw [show (xg 0 h.2.1 5 ((nI i).toNatClampNeg)) = 5 from (by rw [show ((nI i).toNatClampNeg) = i from nI_clamp (by omega)]; exact hc.1)]; rfl), (show xe_c .ne (xg 0 h.2.1 5 ((nI i).toNatClampNeg)) 6 = true by rw [show (xg 0 h.2.1 5 ((nI i).toNatClampNeg)) = 5 from (by rw [show ((nI i).toNatClampNeg) = i from nI_clamp (by omega)]; exact hc.1)]; rfl), trivial⟩ (fun hq => ?_)
    rw [show (xg 0 h.2.1 5 ((nI i).toNatClampNeg)) = 5 from (by rw [show ((nI i).toNatClampNeg) = i from nI_clamp (by omega)]; exact hc.1)]
    rw [show (xg 0 h.2.1 6 ((nI i).toNatClampNeg)) = v from (by rw [show ((nI i).toNatClampNeg) = i from nI_clamp (by omega)]; exact hc.2)]
    refine xq_run hq rfl rfl (pek_q (d := (m + 2)) (by omega) (by omega) hq) ?_
    rintro v2 h2 ⟨rfl, rfl⟩
    rw [show xg 0 h.2.1 7 ((m + 2) - 1) = a from ((hm ▸ ss.1))]
    refine xq_n 153 [0, 1, 2, 3, 4, 5, 6, 7] [(0, .ref 4), (1, .int sv), (2, .int nm), (3, .int ((nI (m + 2)) + Int32.ofInt (-1))), (4, .int (nI i)), (5, .int 5), (6, .int v), (7, .int a)] [.int ((nI (m + 2)) + Int32.ofInt (-1)), .ref 4, .int 5, .int ((nI (m + 2)) + Int32.ofInt (-1)), .ref 4] h [true] 12 hq rfl ⟨(by decide), trivial⟩ (fun hq => ?_)
    rw [show ((nI (m + 2)) + Int32.ofInt (-1)) = nI (m + 1) from nI_d2]
    refine xq_run hq rfl rfl (pek_q (d := (m + 1)) (by omega) (by omega) hq) ?_
    rintro v3 h3 ⟨rfl, rfl⟩
    rw [show xg 0 h.2.1 7 ((m + 1) - 1) = b from ((hm ▸ ss.2.1))]
    refine xq_n 160 [0, 1, 2, 3, 4, 5, 6, 7] [(0, .ref 4), (1, .int sv), (2, .int nm), (3, .int (nI (m + 1))), (4, .int (nI i)), (5, .int 5), (6, .int v), (7, .int a)] [.int v, .int a, .int b, .int 5, .int (nI (m + 1)), .ref 4] h [] 4 hq rfl trivial (fun hq => ?_)
    refine xq_run hq rfl rfl (jn5_q hq) ?_
    rintro v4 h_v4 ⟨rfl, rfl⟩
    refine xq_run hq rfl rfl (rpl_q (d := (m + 1)) (by omega) (by omega) hq) ?_
    rintro v5 h5 ⟨rfl, rfl⟩
    rw [show (m + 1) - 1 = m from rfl]
    have hq : a_rq a_tb (xh_ui h 7 m (b + a * v)) := a_rq_ui hq
    refine xq_n 7 [0, 1, 2, 3, 4] [(0, .ref 4), (1, .int sv), (2, .int nm), (3, .int (nI (m + 1))), (4, .int ((nI i) + Int32.ofInt 1))] [] (xh_ui h 7 m (b + a * v)) [] 4 hq rfl trivial (fun hq => ?_)
    rw [show ((nI i) + Int32.ofInt 1) = nI (i + 1) from nI_1 _]
    exact K _ hq (fx_ui (ge) rfl) (ptx_f (S := fun c _ => Nat.beq c 7) (L := fN) (pt) (fx_ui fx_0 rfl) rfl (fun _ => rfl) (fun _ => rfl)) (⟨by rw [hm]; exact gx_s, stk_u (by omega) ss.2.2⟩)
set_option maxRecDepth 100000 in
set_option maxHeartbeats 4000000 in
theorem run_6 {g i m : Nat} {sv nm v a : Int32} {P : cdL} {ρ : List Int32} {h hb : xh_H} {Q : Option Value → xh_H → Prop} (hq : a_rq a_tb h) (ge : fx F7 fN hb h) (pt : ptx h P) (hi : i < P.length) (l4 : P.length < 400) (hc : xg 0 h.2.1 5 i = 6 ∧ xg 0 h.2.1 6 i = v) (hm : ρ.length = m) (m64 : m + 1 ≤ 64) (ss : stk h (a :: ρ)) (K : ∀ h', a_rq a_tb h' → fx F7 fN hb h' → ptx h' P → stk h' (bl (xe_c .ge a v) :: ρ) → xq g xi_X3_run xmi_X3_run 7 [(0, .ref 4), (1, .int sv), (2, .int nm), (3, .int (nI (m + 1))), (4, .int (nI (i + 1)))] [] h' Q) : xq (g + 1) xi_X3_run xmi_X3_run 7 [(0, .ref 4), (1, .int sv), (2, .int nm), (3, .int (nI (m + 1))), (4, .int (nI i))] [] h Q := by
  cases c1 : xe_c .ge (nI i) (nI (P.length)) with
  | true =>
    have z1 : i ≥ (P.length) := nq_get (a := i) (b := (P.length)) (by omega) (by omega) c1
    omega
  | false =>
    have z1 : i < (P.length) := nq_gef (a := i) (b := (P.length)) (by omega) (by omega) c1
    refine xq_m 100 [0, 1, 2, 3, 4, 5, 6] [(0, .ref 4), (1, .int sv), (2, .int nm), (3, .int (nI (m + 1))), (4, .int (nI i)), (5, .int (xg 0 h.2.1 5 ((nI i).toNatClampNeg))), (6, .int (xg 0 h.2.1 6 ((nI i).toNatClampNeg)))] [.int (nI (m + 1)), .ref 4, .int (nI (m + 1)), .ref 4] h [false, false, false, true, false] 31 hq rfl ⟨(show xe_c .ge (nI i) (xg 0 h.2.1 4 3) = false by rw [show (xg 0 h.2.1 4 3) = (nI (P.length)) from pt.1]; exact c1), (show xe_c .eq (xg 0 h.2.1 5 ((nI i).toNatClampNeg)) 0 = false by rw [show (xg 0 h.2.1 5 ((nI i).toNatClampNeg)) = 6 from (by rw [show ((nI i).toNatClampNeg) = i from nI_clamp (by omega)]; exact hc.1)]; rfl), (show xe_c .eq (xg 0 h.2.1 5 ((nI i).toNatClampNeg)) (Int32.ofInt 1) = false by rw [show (xg 0 h.2.1 5 ((nI i).toNatClampNeg)) = 6 from (by rw [show ((nI i).toNatClampNeg) = i from nI_clamp (by omega)]; exact hc.1)]; rfl), (show xe_c .ne (xg 0 h.2.1 5 ((nI i).toNatClampNeg)) (Int32.ofInt 4) = true by rw [show (xg 0 h.2.1 5 ((nI i).toNatClampNeg)) = 6 from (by rw [show ((nI i).toNatClampNeg) = i from nI_clamp (by omega)]; exact hc.1)]; rfl), (show xe_c .ne (xg 0 h.2.1 5 ((nI i).toNatClampNeg)) 6 = false by rw [show (xg 0 h.2.1 5 ((nI i).toNatClampNeg)) = 6 from (by rw [show ((nI i).toNatClampNeg) = i from nI_clamp (by omega)]; exact hc.1)]; rfl), trivial⟩ (fun hq => ?_)
    rw [show (xg 0 h.2.1 5 ((nI i).toNatClampNeg)) = 6 from (by rw [show ((nI i).toNatClampNeg) = i from nI_clamp (by omega)]; exact hc.1)]
    rw [show (xg 0 h.2.1 6 ((nI i).toNatClampNeg)) = v from (by rw [show ((nI i).toNatClampNeg) = i from nI_clamp (by omega)]; exact hc.2)]
    refine xq_run hq rfl rfl (pek_q (d := (m + 1)) (by omega) (by omega) hq) ?_
    rintro v2 h2 ⟨rfl, rfl⟩
    rw [show xg 0 h.2.1 7 ((m + 1) - 1) = a from ((hm ▸ ss.1))]
    cases c3 : xe_c .lt a v with
    | true =>
      refine xq_n 113 [0, 1, 2, 3, 4, 5, 6] [(0, .ref 4), (1, .int sv), (2, .int nm), (3, .int (nI (m + 1))), (4, .int (nI i)), (5, .int 6), (6, .int v)] [.int (Int32.ofInt 0), .int (nI (m + 1)), .ref 4] h [true] 5 hq rfl ⟨c3, trivial⟩ (fun hq => ?_)
      refine xq_run hq rfl rfl (rpl_q (d := (m + 1)) (by omega) (by omega) hq) ?_
      rintro v4 h4 ⟨rfl, rfl⟩
      rw [show (m + 1) - 1 = m from rfl]
      have hq : a_rq a_tb (xh_ui h 7 m (Int32.ofInt 0)) := a_rq_ui hq
      refine xq_n 7 [0, 1, 2, 3, 4] [(0, .ref 4), (1, .int sv), (2, .int nm), (3, .int (nI (m + 1))), (4, .int ((nI i) + Int32.ofInt 1))] [] (xh_ui h 7 m (Int32.ofInt 0)) [] 5 hq rfl trivial (fun hq => ?_)
      rw [show ((nI i) + Int32.ofInt 1) = nI (i + 1) from nI_1 _]
      exact K _ hq (fx_ui (ge) rfl) (ptx_f (S := fun c _ => Nat.beq c 7) (L := fN) (pt) (fx_ui fx_0 rfl) rfl (fun _ => rfl) (fun _ => rfl)) (⟨by rw [hm]; exact (gx_s).trans (b_g1 c3), stk_u (by omega) ss.2⟩)
    | false =>
      refine xq_n 113 [0, 1, 2, 3, 4, 5, 6] [(0, .ref 4), (1, .int sv), (2, .int nm), (3, .int (nI (m + 1))), (4, .int (nI i)), (5, .int 6), (6, .int v)] [.int (Int32.ofInt 1), .int (nI (m + 1)), .ref 4] h [false] 6 hq rfl ⟨c3, trivial⟩ (fun hq => ?_)
      refine xq_run hq rfl rfl (rpl_q (d := (m + 1)) (by omega) (by omega) hq) ?_
      rintro v5 h5 ⟨rfl, rfl⟩
      rw [show (m + 1) - 1 = m from rfl]
      have hq : a_rq a_tb (xh_ui h 7 m (Int32.ofInt 1)) := a_rq_ui hq
      refine xq_n 7 [0, 1, 2, 3, 4] [(0, .ref 4), (1, .int sv), (2, .int nm), (3, .int (nI (m + 1))), (4, .int ((nI i) + Int32.ofInt 1))] [] (xh_ui h 7 m (Int32.ofInt 1)) [] 5 hq rfl trivial (fun hq => ?_)
      rw [show ((nI i) + Int32.ofInt 1) = nI (i + 1) from nI_1 _]
      exact K _ hq (fx_ui (ge) rfl) (ptx_f (S := fun c _ => Nat.beq c 7) (L := fN) (pt) (fx_ui fx_0 rfl) rfl (fun _ => rfl) (fun _ => rfl)) (⟨by rw [hm]; exact (gx_s).trans (b_g2 c3), stk_u (by omega) ss.2⟩)
set_option maxRecDepth 100000 in
set_option maxHeartbeats 4000000 in
theorem run_7 {g i m : Nat} {sv nm v a : Int32} {P : cdL} {ρ : List Int32} {h hb : xh_H} {Q : Option Value → xh_H → Prop} (hq : a_rq a_tb h) (ge : fx F7 fN hb h) (pt : ptx h P) (hi : i < P.length) (l4 : P.length < 400) (hc : xg 0 h.2.1 5 i = 7 ∧ xg 0 h.2.1 6 i = v) (hm : ρ.length = m) (m64 : m + 1 ≤ 64) (ss : stk h (a :: ρ)) (K : ∀ h', a_rq a_tb h' → fx F7 fN hb h' → ptx h' P → stk h' (ρ) → xq g xi_X3_run xmi_X3_run 7 [(0, .ref 4), (1, .int sv), (2, .int (nm ||| (a <<< (v &&& 31)))), (3, .int (nI m)), (4, .int (nI (i + 1)))] [] h' Q) : xq (g + 1) xi_X3_run xmi_X3_run 7 [(0, .ref 4), (1, .int sv), (2, .int nm), (3, .int (nI (m + 1))), (4, .int (nI i))] [] h Q := by
  cases c1 : xe_c .ge (nI i) (nI (P.length)) with
  | true =>
    have z1 : i ≥ (P.length) := nq_get (a := i) (b := (P.length)) (by omega) (by omega) c1
    omega
  | false =>
    have z1 : i < (P.length) := nq_gef (a := i) (b := (P.length)) (by omega) (by omega) c1
    refine xq_m 121 [0, 1, 2, 3, 4, 5, 6] [(0, .ref 4), (1, .int sv), (2, .int nm), (3, .int (nI (m + 1))), (4, .int (nI i)), (5, .int (xg 0 h.2.1 5 ((nI i).toNatClampNeg))), (6, .int (xg 0 h.2.1 6 ((nI i).toNatClampNeg)))] [.int (nI (m + 1)), .ref 4] h [false, false, false, true, true] 29 hq rfl ⟨(show xe_c .ge (nI i) (xg 0 h.2.1 4 3) = false by rw [show (xg 0 h.2.1 4 3) = (nI (P.length)) from pt.1]; exact c1), (show xe_c .eq (xg 0 h.2.1 5 ((nI i).toNatClampNeg)) 0 = false by rw [show (xg 0 h.2.1 5 ((nI i).toNatClampNeg)) = 7 from (by rw [show ((nI i).toNatClampNeg) = i from nI_clamp (by omega)]; exact hc.1)]; rfl), (show xe_c .eq (xg 0 h.2.1 5 ((nI i).toNatClampNeg)) (Int32.ofInt 1) = false by rw [show (xg 0 h.2.1 5 ((nI i).toNatClampNeg)) = 7 from (by rw [show ((nI i).toNatClampNeg) = i from nI_clamp (by omega)]; exact hc.1)]; rfl), (show xe_c .ne (xg 0 h.2.1 5 ((nI i).toNatClampNeg)) (Int32.ofInt 4) = true by rw [show (xg 0 h.2.1 5 ((nI i).toNatClampNeg)) = 7 from (by rw [show ((nI i).toNatClampNeg) = i from nI_clamp (by omega)]; exact hc.1)]; rfl), (show xe_c .ne (xg 0 h.2.1 5 ((nI i).toNatClampNeg)) 6 = true by rw [show (xg 0 h.2.1 5 ((nI i).toNatClampNeg)) = 7 from (by rw [show ((nI i).toNatClampNeg) = i from nI_clamp (by omega)]; exact hc.1)]; rfl), trivial⟩ (fun hq => ?_)
    rw [show (xg 0 h.2.1 5 ((nI i).toNatClampNeg)) = 7 from (by rw [show ((nI i).toNatClampNeg) = i from nI_clamp (by omega)]; exact hc.1)]
    rw [show (xg 0 h.2.1 6 ((nI i).toNatClampNeg)) = v from (by rw [show ((nI i).toNatClampNeg) = i from nI_clamp (by omega)]; exact hc.2)]
    refine xq_run hq rfl rfl (pek_q (d := (m + 1)) (by omega) (by omega) hq) ?_
    rintro v2 h2 ⟨rfl, rfl⟩
    rw [show xg 0 h.2.1 7 ((m + 1) - 1) = a from ((hm ▸ ss.1))]
    refine xq_n 7 [0, 1, 2, 3, 4] [(0, .ref 4), (1, .int sv), (2, .int (nm ||| (a <<< (v &&& 31)))), (3, .int ((nI (m + 1)) + Int32.ofInt (-1))), (4, .int ((nI i) + Int32.ofInt 1))] [] h [false] 16 hq rfl ⟨(by decide), trivial⟩ (fun hq => ?_)
    rw [show ((nI (m + 1)) + Int32.ofInt (-1)) = nI m from nI_dec m]
    rw [show ((nI i) + Int32.ofInt 1) = nI (i + 1) from nI_1 _]
    exact K _ hq (ge) (pt) (ss.2)
set_option maxRecDepth 100000 in
set_option maxHeartbeats 4000000 in
theorem run_lp {sv y nme : Int32} {P : cdL} {hb : xh_H} (l4 : P.length < 400) : ∀ (f i : Nat) (σ : List Int32) (nm : Int32) (h : xh_H), a_rq a_tb h → fx F7 fN hb h → ptx h P → i ≤ P.length → σ.length ≤ 64 → stk h σ → px sv (P.drop i) (σ, nm) = some ([y], nme) → xq f xi_X3_run xmi_X3_run 7 [(0, .ref 4), (1, .int sv), (2, .int nm), (3, .int (nI σ.length)), (4, .int (nI i))] [] h (fun v h' => fx F7 fN hb h' ∧ v = some (.int (bl (!decide (y = 0))))) := by
  intro f
  induction f with
  | zero => intros; exact xq_0
  | succ f ih =>
    intro i σ nm h hq ge pt hi l64 ss hp
    by_cases e : i = P.length
    · rw [e, List.drop_length] at hp
      have hp : (σ, nm) = ([y], nme) := Option.some.inj hp
      cases hp
      refine xq_m 174 [0, 3] [(0, .ref 4), (3, .int (nI 1))] [.int (nI 1), .ref 4] h [true] 7 hq rfl ⟨(show xe_c .ge (nI i) (xg 0 h.2.1 4 3) = true by rw [pt.1]; exact decide_eq_true (by rw [e]; exact Int32.le_refl _)), trivial⟩ (fun hq => ?_)
      refine xq_run hq rfl rfl (pek_q (d := 1) (by decide) (by decide) hq) ?_
      rintro v h1 ⟨rfl, rfl⟩
      rw [show xg 0 h.2.1 7 (1 - 1) = y from ss.1]
      by_cases z : y = 0
      · refine xq_n 185 [] [] [.int (Int32.ofInt 0)] h [true] 4 hq rfl ⟨decide_eq_true z, trivial⟩ (fun hq => ?_)
        exact xq_ret rfl rfl rfl ⟨ge, by rw [decide_eq_true z]; rfl⟩
      · refine xq_n 185 [] [] [.int (Int32.ofInt 1)] h [false] 5 hq rfl ⟨decide_eq_false z, trivial⟩ (fun hq => ?_)
        exact xq_ret rfl rfl rfl ⟨ge, by rw [decide_eq_false z]; rfl⟩
    · have hi : i < P.length := by omega
      rw [List.drop_eq_getElem_cons hi] at hp
      obtain ⟨w, h1, h2⟩ := px_c hp
      have hc := pt.2 i hi
      generalize hw : P[i] = q at h1 hc
      obtain ⟨c, v⟩ := q
      rcases px1_i h1 with ⟨rfl, m64, rfl⟩ | ⟨rfl, m64, rfl⟩ | ⟨rfl, m64, rfl⟩ | ⟨a, b, ρ, rfl, ⟨rfl, rfl⟩ | ⟨rfl, rfl⟩ | ⟨rfl, rfl⟩⟩ | ⟨a, ρ, rfl, ⟨rfl, rfl⟩ | ⟨rfl, rfl⟩⟩
      · have r := fun (h' : xh_H) (hq : a_rq a_tb h') (ge : fx F7 fN hb h') (pt : ptx h' P) => fun hl ss => ih (i + 1) _ _ h' hq ge pt hi hl ss h2
        exact run_0 (σ := σ) hq ge pt hi l4 hc rfl m64 ss (fun h' hq ge pt ss => r h' hq ge pt (by show σ.length + 1 ≤ 64; omega) ss)
      · have r := fun (h' : xh_H) (hq : a_rq a_tb h') (ge : fx F7 fN hb h') (pt : ptx h' P) => fun hl ss => ih (i + 1) _ _ h' hq ge pt hi hl ss h2
        exact run_1 (σ := σ) hq ge pt hi l4 hc rfl m64 ss (fun h' hq ge pt ss => r h' hq ge pt (by show σ.length + 1 ≤ 64; omega) ss)
      · have r := fun (h' : xh_H) (hq : a_rq a_tb h') (ge : fx F7 fN hb h') (pt : ptx h' P) => fun hl ss => ih (i + 1) _ _ h' hq ge pt hi hl ss h2
        exact run_4 (σ := σ) hq ge pt hi l4 hc rfl m64 ss (fun h' hq ge pt ss => r h' hq ge pt (by show σ.length + 1 ≤ 64; omega) ss)
      · have r := fun (h' : xh_H) (hq : a_rq a_tb h') (ge : fx F7 fN hb h') (pt : ptx h' P) => fun hl ss => ih (i + 1) _ _ h' hq ge pt hi hl ss h2
        exact run_2 (ρ := ρ) hq ge pt hi l4 hc rfl l64 ss (fun h' hq ge pt ss => r h' hq ge pt (by have l64 : ρ.length + 2 ≤ 64 := l64; show ρ.length + 1 ≤ 64; omega) ss)
      · have r := fun (h' : xh_H) (hq : a_rq a_tb h') (ge : fx F7 fN hb h') (pt : ptx h' P) => fun hl ss => ih (i + 1) _ _ h' hq ge pt hi hl ss h2
        exact run_3 (ρ := ρ) hq ge pt hi l4 hc rfl l64 ss (fun h' hq ge pt ss => r h' hq ge pt (by have l64 : ρ.length + 2 ≤ 64 := l64; show ρ.length + 1 ≤ 64; omega) ss)
      · have r := fun (h' : xh_H) (hq : a_rq a_tb h') (ge : fx F7 fN hb h') (pt : ptx h' P) => fun hl ss => ih (i + 1) _ _ h' hq ge pt hi hl ss h2
        exact run_5 (ρ := ρ) hq ge pt hi l4 hc rfl l64 ss (fun h' hq ge pt ss => r h' hq ge pt (by have l64 : ρ.length + 2 ≤ 64 := l64; show ρ.length + 1 ≤ 64; omega) ss)
      · have r := fun (h' : xh_H) (hq : a_rq a_tb h') (ge : fx F7 fN hb h') (pt : ptx h' P) => fun hl ss => ih (i + 1) _ _ h' hq ge pt hi hl ss h2
        exact run_6 (ρ := ρ) hq ge pt hi l4 hc rfl l64 ss (fun h' hq ge pt ss => r h' hq ge pt (by have l64 : ρ.length + 1 ≤ 64 := l64; show ρ.length + 1 ≤ 64; omega) ss)
      · have r := fun (h' : xh_H) (hq : a_rq a_tb h') (ge : fx F7 fN hb h') (pt : ptx h' P) => fun hl ss => ih (i + 1) _ _ h' hq ge pt hi hl ss h2
        exact run_7 (ρ := ρ) hq ge pt hi l4 hc rfl l64 ss (fun h' hq ge pt ss => r h' hq ge pt (by have l64 : ρ.length + 1 ≤ 64 := l64; omega) ss)
set_option maxRecDepth 100000 in
/-- Program.run -/
theorem run_q {f sv : Nat} {y : Bool} {nme : Int32} {P : cdL} {h : xh_H} (l4 : P.length < 400) (pt : ptx h P) (hp : px (nI sv) P ([], nI 0) = some ([bl y], nme)) (hq : a_rq a_tb h) : xq f xi_X3_run xmi_X3_run 0 [(0, .ref 4), (1, .int (nI sv))] [] h (fun v h' => fx F7 fN h h' ∧ v = some (.int (bl y))) := by
  refine xq_n 7 [0, 1, 2, 3, 4] [(0, .ref 4), (1, .int (nI sv)), (2, .int (Int32.ofInt 0)), (3, .int (Int32.ofInt 0)), (4, .int (Int32.ofInt 0))] [] h [] 8 hq rfl trivial (fun hq => ?_)
  refine xq_mono (run_lp l4 f 0 [] (nI 0) h hq fx_0 pt (Nat.zero_le _) (by decide) trivial (by rw [List.drop_zero]; exact hp)) (fun v h' e => ⟨e.1, e.2.trans ?_⟩)
  cases y <;> rfl
end XRU
end
section
section XFI
def lb (w : Int64) (k : Nat) : Bool := !(decide (lg_cmp ((w.toUInt64 >>> ((nI k).toInt64.toUInt64 &&& Int64.toUInt64 63)).toInt64 &&& 1) 0 = 0))
theorem sh64 : ∀ k, k < 64 → (nI k).toInt64.toUInt64 &&& Int64.toUInt64 63 = UInt64.ofNat k := by decide +kernel
theorem sh64i : ∀ k, k < 64 → ((nI k).toInt64 &&& 63 : Int64) = Int64.ofNat k := by decide +kernel
theorem lb_g {w : Int64} {k : Nat} (hk : k < 64) : lb w k = w.toBitVec.getLsbD k := by
  unfold lb
  rw [sh64 k hk]
  have e : ((w.toUInt64 >>> UInt64.ofNat k).toInt64 &&& 1).toBitVec = (w.toBitVec >>> k) &&& 1#64 := by
    have : k % 64 = k := Nat.mod_eq_of_lt hk
    have h2 : k % 18446744073709551616 % 64 = k := by omega
    simp [Int64.toBitVec_and, UInt64.toBitVec_shiftRight, h2, this]
  cases h : w.toBitVec.getLsbD k with
  | false =>
    have : ((w.toUInt64 >>> UInt64.ofNat k).toInt64 &&& 1) = 0 := by
      apply Int64.toBitVec_inj.mp
      rw [e]
      apply BitVec.eq_of_getLsbD_eq
      intro i hi
      rw [BitVec.getLsbD_and, BitVec.getLsbD_ushiftRight, BitVec.getLsbD_one]
      by_cases z : i = 0
      · subst z
        rw [Nat.add_zero, h]
        rfl
      · simp [z]
    rw [decide_eq_true (lg0.mpr this)]
    rfl
  | true =>
    have : ((w.toUInt64 >>> UInt64.ofNat k).toInt64 &&& 1) ≠ 0 := by
      intro z
      have z2 := congrArg (fun x => x.toBitVec.getLsbD 0) z
      simp only [e, BitVec.getLsbD_and, BitVec.getLsbD_ushiftRight, BitVec.getLsbD_one, Nat.add_zero, h] at z2
      exact absurd z2 (by decide)
    rw [decide_eq_false (fun y => this (lg0.mp y))]
    rfl
theorem lb_0 {k : Nat} (hk : k < 64) : lb 0 k = false := by
  rw [lb_g hk]
  exact BitVec.getLsbD_zero
theorem lb_or {w : Int64} {j k : Nat} (hj : j < 64) (hk : k < 64) : lb (w ||| (1 <<< ((nI j).toInt64 &&& 63))) k = (lb w k || decide (j = k)) := by
  rw [lb_g hk, lb_g hk, sh64i j hj]
  have e : (w ||| (1 <<< Int64.ofNat j)).toBitVec = w.toBitVec ||| (1#64 <<< j) := by
    have h2 : (Int64.ofNat j).toBitVec.smod 64 = BitVec.ofNat 64 j := by
      revert hj; revert j
      decide +kernel
    have h3 : (BitVec.ofNat 64 j).toNat = j := by simp; omega
    rw [Int64.toBitVec_or, Int64.toBitVec_shiftLeft, h2]
    rw [BitVec.shiftLeft_eq', h3]
    rfl
  rw [e, BitVec.getLsbD_or, BitVec.getLsbD_shiftLeft, BitVec.getLsbD_one]
  by_cases z : j = k
  · subst z
    simp [hj]
  · rw [show decide (j = k) = false from decide_eq_false z]
    congr 1
    by_cases y : k < j
    · simp [y]
    · simp [y]; omega
theorem hv_lb {h : xh_H} {r s : Nat} : hv h r s = lb (xg 0 h.2.2.1 r (s / 64)) (s % 64) := rfl
theorem xe_ls {c len pc nL rK ri d n ra rb : Nat} {lv : List (Nat × Value)} {q : List Value} {h : xh_H} {x : Int64} {i : Int32} (hs : h.1[c]? = some (4, n)) (hi : xe_in i n = true) : xe_2 none nL (.lastore, len, ra, rb, rK, ri) d pc lv (.long x :: .int i :: .ref c :: q) h 0 0 = some (pc + 1, lv, q, xh_ul h c i.toNatClampNeg x, 0, 0) := by
  simp [xe_2, xe_1, xp_lir, hs, hi]
set_option maxRecDepth 100000 in
set_option maxHeartbeats 4000000 in
/-- Statute.add -/
theorem ad_run {d q r s : Nat} {h : xh_H} (hrq : a_rq a_tb h) (hs : h.1[q]? = some (0, 7)) (hg : xg none h.2.2.2 q 1 = some r) (hr : h.1[r]? = some (4, 64)) (s12 : s < 4096) : xt_P d xi_X7_add xmi_X7_add 0 [(0, .ref q), (1, .int (nI s))] [] h (fun v h' => v = none ∧ h' = xh_ul h r (s / 64) ((xg 0 h.2.2.1 r (s / 64)) ||| (1 <<< ((nI (s % 64)).toInt64 &&& 63)))) := by
  have e6 : nI s >>> ((6 : Int32) &&& 31) = nI (s / 64) := nI_shr (a := s) (k := 6) (by omega) (by decide)
  have l6 : s / 64 < 64 := by omega
  have i6 := nI_toInt (n := s / 64) (by omega)
  have z0 : (0 : Int32).toInt = 0 := rfl
  have a63 : nI s &&& (63 : Int32) = nI (s % 64) := by
    rw [show (63 : Int32) = nI 63 from rfl, nI_and, show 63 = 2 ^ 6 - 1 from rfl, Nat.and_two_pow_sub_one_eq_mod]
  refine xa_tn 16 [1, 2] [(1, .int (nI s)), (2, .int ((nI s) >>> (6 &&& 31)))] [.ref q] h [false, false] 12 hrq rfl ⟨(show xe_c .lt ((nI s) >>> (6 &&& 31)) 0 = false by rw [e6]; exact xlt_f (by omega)), (show xe_c .ge ((nI s) >>> (6 &&& 31)) 64 = false by rw [e6]; exact nge_f (b := 64) (by omega) (by omega) l6), trivial⟩ (fun _ => ?_)
  rw [e6]
  refine xp_step rfl rfl (xe_gr hs rfl hg) ?_
  refine xa_tn 21 [1] [(1, .int (nI s))] [.int (nI (s / 64)), .ref r, .int (nI (s / 64)), .ref r] h [] 4 hrq rfl trivial (fun _ => ?_)
  refine xp_step rfl rfl (xe_la hr (xin_n l6 (by omega))) ?_
  rw [nI_clamp (by omega)]
  refine xa_tn 29 [] [] [.long ((xg 0 h.2.2.1 r (s / 64)) ||| (1 <<< (((nI s) &&& 63).toInt64 &&& 63))), .int (nI (s / 64)), .ref r] h [] 9 hrq rfl trivial (fun _ => ?_)
  rw [a63]
  refine xp_step rfl rfl (xe_ls hr (xin_n l6 (by omega))) ?_
  rw [nI_clamp (by omega)]
  exact xp_ret rfl rfl rfl ⟨rfl, rfl⟩
theorem hv_ad {h : xh_H} {r s t : Nat} (t12 : t < 4096) : hv (xh_ul h r (s / 64) ((xg 0 h.2.2.1 r (s / 64)) ||| (1 <<< ((nI (s % 64)).toInt64 &&& 63)))) r t = (hv h r t || decide (s = t)) := by
  rw [hv_lb, hv_lb]
  by_cases e : t / 64 = s / 64
  · rw [e, gl_s, lb_or (by omega) (by omega)]
    congr 1
    by_cases z : s % 64 = t % 64
    · rw [decide_eq_true z, decide_eq_true (show s = t by omega)]
    · rw [decide_eq_false z, decide_eq_false (fun y => z (by rw [y]))]
  · rw [gl_k e, decide_eq_false (fun y => e (by rw [y])), Bool.or_false]
def Lr (r c _k : Nat) : Bool := Nat.beq c r
theorem hv_f {S L : Nat → Nat → Bool} {h h' : xh_H} {r s : Nat} (g : fx S L h h') (e : ∀ k, L r k = false) : hv h' r s = hv h r s := by
  unfold hv
  rw [fx_l g (e _)]
set_option maxRecDepth 100000 in
set_option maxHeartbeats 4000000 in
theorem fl_lp {q r s mem : Nat} {P : cdL} {y : Bool} {h0 : xh_H} (m12 : mem ≤ 12) (s4 : s < 4096) (hs : h0.1[q]? = some (0, 7)) (hg : xg none h0.2.2.2 q 1 = some r) (hr : h0.1[r]? = some (4, 64)) (l4 : P.length < 400) (hP : ∀ sv, sv < 4096 → ∃ y nm, px (nI sv) P ([], nI 0) = some ([bl y], nm)) (hy : ∃ nm, px (nI s) P ([], nI 0) = some ([bl y], nm)) : ∀ (f i : Nat) (h : xh_H), a_rq a_tb h → fx F7 (Lr r) h0 h → ptx h P → i ≤ 2 ^ mem → hv h r s = (decide (s < i) && y) → xq f xi_X3_fill xmi_X3_fill 2 [(0, .ref 4), (1, .ref q), (2, .int (nI mem)), (3, .int (nI i))] [] h (fun v h' => v = none ∧ fx F7 (Lr r) h0 h' ∧ hv h' r s = (decide (s < 2 ^ mem) && y)) := by
  have p12 : 2 ^ mem ≤ 4096 := show 2 ^ mem ≤ 2 ^ 12 from Nat.pow_le_pow_right (by decide) m12
  intro f
  induction f with
  | zero => intros; exact xq_0
  | succ f ih =>
    intro i h hq ge pt i6 w
    cases c1 : xe_c .ge (nI i) (nI (2 ^ mem)) with
    | true =>
      have z1 : i ≥ (2 ^ mem) := nq_get (a := i) (b := (2 ^ mem)) (by omega) (by omega) c1
      refine xq_m 28 [] [] [] h [true] 7 hq rfl ⟨(show xe_c .ge (nI i) ((Int32.ofInt 1) <<< ((nI mem) &&& 31)) = true by rw [show ((Int32.ofInt 1) <<< ((nI mem) &&& 31)) = nI (2 ^ mem) from sh1 mem (by omega)]; exact c1), trivial⟩ (fun hq => ?_)
      exact xq_ret rfl rfl rfl ⟨rfl, ge, by rw [w, show i = 2 ^ mem by omega]⟩
    | false =>
      have z1 : i < (2 ^ mem) := nq_gef (a := i) (b := (2 ^ mem)) (by omega) (by omega) c1
      refine xq_m 11 [0, 1, 2, 3] [(0, .ref 4), (1, .ref q), (2, .int (nI mem)), (3, .int (nI i))] [.int (nI i), .ref 4] h [false] 9 hq rfl ⟨(show xe_c .ge (nI i) ((Int32.ofInt 1) <<< ((nI mem) &&& 31)) = false by rw [show ((Int32.ofInt 1) <<< ((nI mem) &&& 31)) = nI (2 ^ mem) from sh1 mem (by omega)]; exact c1), trivial⟩ (fun hq => ?_)
      obtain ⟨y2, nm2, hp2⟩ := hP i (by omega)
      refine xq_run hq rfl rfl (run_q l4 pt hp2 hq) ?_
      rintro v2 h2 ⟨g2, rfl⟩
      have hq := fx_q g2 hq
      have ge := fx_t ge (fx_w g2 (fun _ _ z => z) (fun _ _ _ => rfl))
      have pt := ptx_f pt g2 rfl (fun _ => rfl) (fun _ => rfl)
      have w : hv h2 r s = (decide (s < i) && y) := (hv_f g2 (fun _ => rfl)).trans w
      cases b3 : y2 with
      | true =>
        refine xq_n 19 [0, 1, 2, 3] [(0, .ref 4), (1, .ref q), (2, .int (nI mem)), (3, .int (nI i))] [.int (nI i), .ref q] h2 [false] 5 hq rfl ⟨rfl, trivial⟩ (fun hq => ?_)
        have hs' : h2.1[q]? = some (0, 7) := by rw [ge.1]; exact hs
        have hr' : h2.1[r]? = some (4, 64) := by rw [ge.1]; exact hr
        have hg' : xg none h2.2.2.2 q 1 = some r := by rw [ge.2.1]; exact hg
        refine xq_cr (As := [.ref q, .int (nI i)]) (mj := xmi_X7_add) (q := []) rfl rfl (fun _ _ => rfl) (xa_cs_ok (d := 0) (pc := 0) (lv := []) (nL := 0) hs' rfl).1 (fun f => xq_of (d := 0) ⟨_, rfl⟩ (ad_run hq hs' hg' hr' (by omega))) ?_
        rintro v4 h4 ⟨rfl, rfl⟩
        have hq : a_rq a_tb (xh_ul h2 r (i / 64) ((xg 0 h2.2.2.1 r (i / 64)) ||| (1 <<< ((nI (i % 64)).toInt64 &&& 63)))) := a_rq_ul hq
        refine xq_n 2 [0, 1, 2, 3] [(0, .ref 4), (1, .ref q), (2, .int (nI mem)), (3, .int ((nI i) + Int32.ofInt 1))] [] (xh_ul h2 r (i / 64) ((xg 0 h2.2.2.1 r (i / 64)) ||| (1 <<< ((nI (i % 64)).toInt64 &&& 63)))) [] 4 hq rfl trivial (fun hq => ?_)
        rw [show ((nI i) + Int32.ofInt 1) = nI (i + 1) from nI_1 _]
        refine ih (i + 1) _ hq (fx_ul ge (Nat.beq_refl r)) (ptx_f (S := fN) (L := Lr r) pt (fx_ul fx_0 (Nat.beq_refl r)) rfl (fun _ => rfl) (fun _ => rfl)) (by omega) ?_
        rw [hv_ad s4, w]
        by_cases e : i = s
        · obtain ⟨nm', hy'⟩ := hy
          rw [← e, hp2] at hy'
          have e3 := Option.some.inj hy'
          have e4 : bl y2 = bl y := by have e5 := congrArg (fun z => z.1) e3; exact (List.cons.inj e5).1
          have e6 : y = true := by rw [b3] at e4; cases y <;> first | rfl | exact absurd e4 (by decide)
          rw [e6, decide_eq_false (show ¬ s < i by omega), decide_eq_true (show s < i + 1 by omega), decide_eq_true e]; rfl
        · rw [decide_eq_false e, Bool.or_false]; by_cases z : s < i
          · rw [decide_eq_true z, decide_eq_true (show s < i + 1 by omega)]
          · rw [decide_eq_false z, decide_eq_false (show ¬ s < i + 1 by omega)]
      | false =>
        refine xq_n 2 [0, 1, 2, 3] [(0, .ref 4), (1, .ref q), (2, .int (nI mem)), (3, .int ((nI i) + Int32.ofInt 1))] [] h2 [true] 5 hq rfl ⟨rfl, trivial⟩ (fun hq => ?_)
        rw [show ((nI i) + Int32.ofInt 1) = nI (i + 1) from nI_1 _]
        refine ih (i + 1) _ hq ge pt (by omega) ?_
        rw [w]
        by_cases e : i = s
        · obtain ⟨nm', hy'⟩ := hy
          rw [← e, hp2] at hy'
          have e3 := Option.some.inj hy'
          have e4 : bl y2 = bl y := by have e5 := congrArg (fun z => z.1) e3; exact (List.cons.inj e5).1
          have e6 : y = false := by rw [b3] at e4; cases y <;> first | rfl | exact absurd e4 (by decide)
          rw [e6, decide_eq_false (show ¬ s < i by omega), decide_eq_true (show s < i + 1 by omega)]; rfl
        · by_cases z : s < i
          · rw [decide_eq_true z, decide_eq_true (show s < i + 1 by omega)]
          · rw [decide_eq_false z, decide_eq_false (show ¬ s < i + 1 by omega)]
set_option maxRecDepth 100000 in
/-- Program.fill -/
theorem fl_q {f q r s mem : Nat} {P : cdL} {y : Bool} {h : xh_H} (m12 : mem ≤ 12) (s4 : s < 4096) (hs : h.1[q]? = some (0, 7)) (hg : xg none h.2.2.2 q 1 = some r) (hr : h.1[r]? = some (4, 64)) (l4 : P.length < 400) (hP : ∀ sv, sv < 4096 → ∃ y nm, px (nI sv) P ([], nI 0) = some ([bl y], nm)) (hy : ∃ nm, px (nI s) P ([], nI 0) = some ([bl y], nm)) (pt : ptx h P) (z : hv h r s = false) (hq : a_rq a_tb h) : xq f xi_X3_fill xmi_X3_fill 0 [(0, .ref 4), (1, .ref q), (2, .int (nI mem))] [] h (fun v h' => v = none ∧ fx F7 (Lr r) h h' ∧ hv h' r s = (decide (s < 2 ^ mem) && y)) := by
  refine xq_n 2 [0, 1, 2, 3] [(0, .ref 4), (1, .ref q), (2, .int (nI mem)), (3, .int (Int32.ofInt 0))] [] h [] 4 hq rfl trivial (fun hq => ?_)
  exact fl_lp m12 s4 hs hg hr l4 hP hy f 0 h hq fx_0 pt (Nat.zero_le _) (by rw [z]; rfl)
end XFI
end
