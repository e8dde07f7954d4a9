section XRH
variable {T : Nat → Nat} {n mem nn : Nat} {NW : Nat → Nat}
/-- while a step is done -/
def GI (h0 h : xh_H) (T : Nat → Nat) (n mem nn : Nat) (NW : Nat → Nat) (p o : Nat) (fs : List Nat) (aw : Nat) : Prop := fx rT gL h0 h ∧ rr h T n mem nn NW p o fs ∧ xg 0 h.2.1 39 29 = nI aw ∧ xg 0 h.2.1 39 30 = nI 0
def eS (c _k : Nat) : Bool := Nat.beq c 41 || (Nat.beq c 42 || (Nat.beq c 45 || (Nat.beq c 46 || Nat.beq c 48)))
theorem eS_r {c k : Nat} (h : rT c k = false) : eS c k = false := by
  have h := rS_t h
  unfold rS at h
  unfold eS
  obtain ⟨h1, h2⟩ := or_f h
  obtain ⟨h41, h2⟩ := or_f h2
  obtain ⟨h42, h2⟩ := or_f h2
  obtain ⟨h45, h2⟩ := or_f h2
  obtain ⟨h46, h2⟩ := or_f h2
  obtain ⟨h47, h2⟩ := or_f h2
  obtain ⟨h48, h49⟩ := or_f h2
  rw [h41, h42, h45, h46, h48]
  rfl
theorem rr_f {h h' : xh_H} {p o : Nat} {fs : List Nat} (r : rr h T n mem nn NW p o fs) (g : fx eS fN h h') : rr h' T n mem nn NW p o fs := by
  obtain ⟨r1, r2, r3, r4, r5, r6, r7, r8, r9, r10, r11, r12⟩ := r
  exact ⟨rtp_f r1 g rfl (fun _ => rfl), rtk_f r2 g (fun j j1 j2 => rfl) rfl, by rw [fx_i g rfl]; exact r3, r4, nms_f r5 g rfl (fun _ => rfl), by rw [fx_i g rfl]; exact r6, r7, by rw [fx_i g rfl]; exact r8, r9, r10, frs_c (fun k _ => fx_i g rfl) r11, by rw [fx_i g rfl]; exact r12⟩
theorem GI_f {h0 h h' : xh_H} {p o aw : Nat} {fs : List Nat} (r : GI h0 h T n mem nn NW p o fs aw) (g : fx eS fN h h') : GI h0 h' T n mem nn NW p o fs aw := ⟨fx_t r.1 (fx_w g (fun _ _ => eS_r) (fun _ _ _ => rfl)), rr_f r.2.1 g, by rw [fx_i g rfl]; exact r.2.2.1, by rw [fx_i g rfl]; exact r.2.2.2⟩
set_option maxRecDepth 100000 in
set_option maxHeartbeats 4000000 in
theorem el_24 {p o aw : Nat} {fs : List Nat} {h0 : xh_H} {v1 : Int32} {Q : Option Value → xh_H → Prop} (K : ∀ (f : Nat) (x : Int32) (h : xh_H), a_rq a_tb h → GI h0 h T n mem nn NW p o fs aw → xq f xi_X10_end_ xmi_X10_end_ 66 [(0, .ref 39), (1, .int v1), (2, .int x)] [] h Q) : ∀ (f : Nat) (x : Int32) (h : xh_H), a_rq a_tb h → GI h0 h T n mem nn NW p o fs aw → xq f xi_X10_end_ xmi_X10_end_ 24 [(0, .ref 39), (1, .int v1), (2, .int x)] [] h Q := by
  intro f
  induction f with
  | zero => intros; exact xq_0
  | succ f ih =>
    intro x h hq gi
    cases c1 : xe_c .ge x 4096 with
    | true =>
      refine xq_m 66 [0, 1, 2] [(0, .ref 39), (1, .int v1), (2, .int x)] [] h [true] 5 hq rfl ⟨c1, trivial⟩ (fun hq => ?_)
      exact K f _ _ hq gi
    | false =>
      cases c2 : xe_c .eq (xg 0 h.2.1 45 x.toNatClampNeg) 0 with
      | true =>
        refine xq_m 24 [0, 1, 2] [(0, .ref 39), (1, .int v1), (2, .int (x + Int32.ofInt 1))] [] h [false, true] 12 hq rfl ⟨c1, c2, trivial⟩ (fun hq => ?_)
        exact ih _ _ hq (GI_f gi (fx_0))
      | false =>
        refine xq_m 24 [0, 1, 2] [(0, .ref 39), (1, .int v1), (2, .int (x + Int32.ofInt 1))] [] (xh_ui h 46 ((v1 + x).toNatClampNeg) ((xg 0 h.2.1 46 ((v1 + x).toNatClampNeg)) + (xg 0 h.2.1 48 ((xg 0 h.2.1 39 28).toNatClampNeg)))) [false, false] 26 hq rfl ⟨c1, c2, trivial⟩ (fun _ => ?_)
        have hq : a_rq a_tb (xh_ui h 46 ((v1 + x).toNatClampNeg) ((xg 0 h.2.1 46 ((v1 + x).toNatClampNeg)) + (xg 0 h.2.1 48 ((xg 0 h.2.1 39 28).toNatClampNeg)))) := a_rq_ui hq
        exact ih _ _ hq (GI_f gi (fx_ui (fx_0) rfl))
set_option maxRecDepth 100000 in
set_option maxHeartbeats 4000000 in
theorem el_94 {p o aw : Nat} {fs : List Nat} {h0 : xh_H} {v1 : Int32} {Q : Option Value → xh_H → Prop} (K : ∀ (f : Nat) (x : Int32) (h : xh_H), a_rq a_tb h → GI h0 h T n mem nn NW p o fs aw → xq f xi_X10_end_ xmi_X10_end_ 138 [(0, .ref 39), (1, .int v1), (2, .int x)] [] h Q) : ∀ (f : Nat) (x : Int32) (h : xh_H), a_rq a_tb h → GI h0 h T n mem nn NW p o fs aw → xq f xi_X10_end_ xmi_X10_end_ 94 [(0, .ref 39), (1, .int v1), (2, .int x)] [] h Q := by
  intro f
  induction f with
  | zero => intros; exact xq_0
  | succ f ih =>
    intro x h hq gi
    cases c1 : xe_c .ge x 4096 with
    | true =>
      refine xq_m 138 [0, 1, 2] [(0, .ref 39), (1, .int v1), (2, .int x)] [] h [true] 5 hq rfl ⟨c1, trivial⟩ (fun hq => ?_)
      exact K f _ _ hq gi
    | false =>
      cases c2 : xe_c .lt (xg 0 h.2.1 46 ((v1 + x).toNatClampNeg)) (xg 0 h.2.1 49 ((xg 0 h.2.1 39 28).toNatClampNeg)) with
      | true =>
        refine xq_m 94 [0, 1, 2] [(0, .ref 39), (1, .int v1), (2, .int (x + Int32.ofInt 1))] [] (xh_ui h 45 x.toNatClampNeg (vp_nar .boolean (Int32.ofInt 0))) [false, true] 24 hq rfl ⟨c1, c2, trivial⟩ (fun _ => ?_)
        have hq : a_rq a_tb (xh_ui h 45 x.toNatClampNeg (vp_nar .boolean (Int32.ofInt 0))) := a_rq_ui hq
        exact ih _ _ hq (GI_f gi (fx_ui (fx_0) rfl))
      | false =>
        refine xq_m 94 [0, 1, 2] [(0, .ref 39), (1, .int v1), (2, .int (x + Int32.ofInt 1))] [] (xh_ui h 45 x.toNatClampNeg (vp_nar .boolean (Int32.ofInt 1))) [false, false] 25 hq rfl ⟨c1, c2, trivial⟩ (fun _ => ?_)
        have hq : a_rq a_tb (xh_ui h 45 x.toNatClampNeg (vp_nar .boolean (Int32.ofInt 1))) := a_rq_ui hq
        exact ih _ _ hq (GI_f gi (fx_ui (fx_0) rfl))
set_option maxRecDepth 100000 in
set_option maxHeartbeats 4000000 in
theorem el_156 {p o aw : Nat} {fs : List Nat} {h0 : xh_H} {v1 : Int32} {Q : Option Value → xh_H → Prop} (K : ∀ (f : Nat) (x : Int32) (h : xh_H), a_rq a_tb h → GI h0 h T n mem nn NW p o fs aw → xq f xi_X10_end_ xmi_X10_end_ 202 [(0, .ref 39), (1, .int v1), (2, .int x)] [] h Q) : ∀ (f : Nat) (x : Int32) (h : xh_H), a_rq a_tb h → GI h0 h T n mem nn NW p o fs aw → xq f xi_X10_end_ xmi_X10_end_ 156 [(0, .ref 39), (1, .int v1), (2, .int x)] [] h Q := by
  intro f
  induction f with
  | zero => intros; exact xq_0
  | succ f ih =>
    intro x h hq gi
    cases c1 : xe_c .ge x 4096 with
    | true =>
      refine xq_m 202 [0, 1, 2] [(0, .ref 39), (1, .int v1), (2, .int x)] [] h [true] 5 hq rfl ⟨c1, trivial⟩ (fun hq => ?_)
      exact K f _ _ hq gi
    | false =>
      cases c2 : xe_c .eq (xg 0 h.2.1 42 ((v1 + x).toNatClampNeg)) 0 with
      | true =>
        refine xq_m 156 [0, 1, 2] [(0, .ref 39), (1, .int v1), (2, .int (x + Int32.ofInt 1))] [] (xh_ui h 42 ((v1 + x).toNatClampNeg) (vp_nar .boolean (Int32.ofInt 0))) [false, true] 21 hq rfl ⟨c1, c2, trivial⟩ (fun _ => ?_)
        have hq : a_rq a_tb (xh_ui h 42 ((v1 + x).toNatClampNeg) (vp_nar .boolean (Int32.ofInt 0))) := a_rq_ui hq
        exact ih _ _ hq (GI_f gi (fx_ui (fx_0) rfl))
      | false =>
        cases c3 : xe_c .eq (xg 0 h.2.1 45 x.toNatClampNeg) 0 with
        | true =>
          refine xq_m 156 [0, 1, 2] [(0, .ref 39), (1, .int v1), (2, .int (x + Int32.ofInt 1))] [] (xh_ui h 42 ((v1 + x).toNatClampNeg) (vp_nar .boolean (Int32.ofInt 0))) [false, false, true] 26 hq rfl ⟨c1, c2, c3, trivial⟩ (fun _ => ?_)
          have hq : a_rq a_tb (xh_ui h 42 ((v1 + x).toNatClampNeg) (vp_nar .boolean (Int32.ofInt 0))) := a_rq_ui hq
          exact ih _ _ hq (GI_f gi (fx_ui (fx_0) rfl))
        | false =>
          refine xq_m 156 [0, 1, 2] [(0, .ref 39), (1, .int v1), (2, .int (x + Int32.ofInt 1))] [] (xh_ui h 42 ((v1 + x).toNatClampNeg) (vp_nar .boolean (Int32.ofInt 1))) [false, false, false] 27 hq rfl ⟨c1, c2, c3, trivial⟩ (fun _ => ?_)
          have hq : a_rq a_tb (xh_ui h 42 ((v1 + x).toNatClampNeg) (vp_nar .boolean (Int32.ofInt 1))) := a_rq_ui hq
          exact ih _ _ hq (GI_f gi (fx_ui (fx_0) rfl))
set_option maxRecDepth 100000 in
set_option maxHeartbeats 4000000 in
theorem el_222 {p o aw : Nat} {fs : List Nat} {h0 : xh_H} {v1 : Int32} {Q : Option Value → xh_H → Prop} (K : ∀ (f : Nat) (x : Int32) (h : xh_H), a_rq a_tb h → GI h0 h T n mem nn NW p o fs aw → xq f xi_X10_end_ xmi_X10_end_ 279 [(0, .ref 39), (1, .int v1), (2, .int x)] [] h Q) : ∀ (f : Nat) (x : Int32) (h : xh_H), a_rq a_tb h → GI h0 h T n mem nn NW p o fs aw → xq f xi_X10_end_ xmi_X10_end_ 222 [(0, .ref 39), (1, .int v1), (2, .int x)] [] h Q := by
  intro f
  induction f with
  | zero => intros; exact xq_0
  | succ f ih =>
    intro x h hq gi
    cases c1 : xe_c .ge x 4096 with
    | true =>
      refine xq_m 279 [0, 1, 2] [(0, .ref 39), (1, .int v1), (2, .int x)] [] h [true] 5 hq rfl ⟨c1, trivial⟩ (fun hq => ?_)
      exact K f _ _ hq gi
    | false =>
      cases c2 : xe_c .ne (xg 0 h.2.1 41 ((v1 + x).toNatClampNeg)) 0 with
      | true =>
        refine xq_m 222 [0, 1, 2] [(0, .ref 39), (1, .int v1), (2, .int (x + Int32.ofInt 1))] [] (xh_ui (xh_ui h 41 ((v1 + x).toNatClampNeg) (vp_nar .boolean (Int32.ofInt 1))) 42 ((v1 + x).toNatClampNeg) (vp_nar .boolean (Int32.ofInt 1))) [false, true] 29 hq rfl ⟨c1, c2, trivial⟩ (fun _ => ?_)
        have hq : a_rq a_tb (xh_ui (xh_ui h 41 ((v1 + x).toNatClampNeg) (vp_nar .boolean (Int32.ofInt 1))) 42 ((v1 + x).toNatClampNeg) (vp_nar .boolean (Int32.ofInt 1))) := a_rq_ui (a_rq_ui hq)
        exact ih _ _ hq (GI_f gi (fx_ui (fx_ui (fx_0) rfl) rfl))
      | false =>
        cases c3 : xe_c .eq (xg 0 h.2.1 42 ((v1 + x).toNatClampNeg)) 0 with
        | true =>
          refine xq_m 222 [0, 1, 2] [(0, .ref 39), (1, .int v1), (2, .int (x + Int32.ofInt 1))] [] (xh_ui (xh_ui h 41 ((v1 + x).toNatClampNeg) (vp_nar .boolean (Int32.ofInt 0))) 42 ((v1 + x).toNatClampNeg) (vp_nar .boolean (Int32.ofInt 1))) [false, false, true] 35 hq rfl ⟨c1, c2, c3, trivial⟩ (fun _ => ?_)
          have hq : a_rq a_tb (xh_ui (xh_ui h 41 ((v1 + x).toNatClampNeg) (vp_nar .boolean (Int32.ofInt 0))) 42 ((v1 + x).toNatClampNeg) (vp_nar .boolean (Int32.ofInt 1))) := a_rq_ui (a_rq_ui hq)
          exact ih _ _ hq (GI_f gi (fx_ui (fx_ui (fx_0) rfl) rfl))
        | false =>
          refine xq_m 222 [0, 1, 2] [(0, .ref 39), (1, .int v1), (2, .int (x + Int32.ofInt 1))] [] (xh_ui (xh_ui h 41 ((v1 + x).toNatClampNeg) (vp_nar .boolean (Int32.ofInt 1))) 42 ((v1 + x).toNatClampNeg) (vp_nar .boolean (Int32.ofInt 1))) [false, false, false] 36 hq rfl ⟨c1, c2, c3, trivial⟩ (fun _ => ?_)
          have hq : a_rq a_tb (xh_ui (xh_ui h 41 ((v1 + x).toNatClampNeg) (vp_nar .boolean (Int32.ofInt 1))) 42 ((v1 + x).toNatClampNeg) (vp_nar .boolean (Int32.ofInt 1))) := a_rq_ui (a_rq_ui hq)
          exact ih _ _ hq (GI_f gi (fx_ui (fx_ui (fx_0) rfl) rfl))
set_option maxRecDepth 100000 in
set_option maxHeartbeats 4000000 in
theorem el_299 {p o aw : Nat} {fs : List Nat} {h0 : xh_H} {v1 : Int32} {Q : Option Value → xh_H → Prop} (K : ∀ (f : Nat) (x : Int32) (h : xh_H), a_rq a_tb h → GI h0 h T n mem nn NW p o fs aw → xq f xi_X10_end_ xmi_X10_end_ 326 [(0, .ref 39), (1, .int v1), (2, .int x)] [] h Q) : ∀ (f : Nat) (x : Int32) (h : xh_H), a_rq a_tb h → GI h0 h T n mem nn NW p o fs aw → xq f xi_X10_end_ xmi_X10_end_ 299 [(0, .ref 39), (1, .int v1), (2, .int x)] [] h Q := by
  intro f
  induction f with
  | zero => intros; exact xq_0
  | succ f ih =>
    intro x h hq gi
    cases c1 : xe_c .ge x 4096 with
    | true =>
      refine xq_m 326 [0, 1, 2] [(0, .ref 39), (1, .int v1), (2, .int x)] [] h [true] 5 hq rfl ⟨c1, trivial⟩ (fun hq => ?_)
      exact K f _ _ hq gi
    | false =>
      refine xq_m 299 [0, 1, 2] [(0, .ref 39), (1, .int v1), (2, .int (x + Int32.ofInt 1))] [] (xh_ui h 45 x.toNatClampNeg (vp_nar .boolean (xg 0 h.2.1 41 ((v1 + x).toNatClampNeg)))) [false] 17 hq rfl ⟨c1, trivial⟩ (fun _ => ?_)
      have hq : a_rq a_tb (xh_ui h 45 x.toNatClampNeg (vp_nar .boolean (xg 0 h.2.1 41 ((v1 + x).toNatClampNeg)))) := a_rq_ui hq
      exact ih _ _ hq (GI_f gi (fx_ui (fx_0) rfl))
/-- what is open: lists and brackets in the rule itself -/
def wfs : List Nat → Prop
  | [] => False
  | [t] => t = 0
  | t :: fs => (t = 1 ∨ t = 2) ∧ wfs fs
theorem wfs_0 {fs : List Nat} (h : wfs fs) (e : fs.head? = some 0) : fs = [0] := by
  match fs, h, e with
  | [t], h, e => have h : t = 0 := h; rw [h]
  | t :: u :: fs, h, e =>
    have h : (t = 1 ∨ t = 2) ∧ wfs (u :: fs) := h
    have e : t = 0 := Option.some.inj e
    omega
theorem wfs_t {fs : List Nat} (h : wfs fs) (e : fs.head? ≠ some 0) : wfs fs.tail := by
  match fs, h, e with
  | [t], h, e => have h : t = 0 := h; exact absurd (by rw [h]; rfl) e
  | t :: u :: fs, h, e => exact h.2
theorem wfs_c {fs : List Nat} {t : Nat} (h : wfs fs) (e : t = 1 ∨ t = 2) : wfs (t :: fs) := by
  match fs, h with
  | u :: fs, h => exact ⟨e, h⟩
theorem wfs_n {fs : List Nat} (h : wfs fs) : fs ≠ [] := by
  intro e
  rw [e] at h
  exact h
def rq0 (h : xh_H) (T : Nat → Nat) (n mem nn : Nat) (NW : Nat → Nat) (p o : Nat) : Prop := rtp h T n ∧ rtk h T n p ∧ xg 0 h.2.1 39 4 = nI mem ∧ mem ≤ 12 ∧ nms h nn NW ∧ xg 0 h.2.1 39 27 = nI o ∧ o ≤ 120 ∧ xg 0 h.2.1 39 13 = nI 0
def en_Q (h0 : xh_H) (T : Nat → Nat) (n mem nn : Nat) (NW : Nat → Nat) (p o : Nat) (r : aRs) (v : Option Value) (h' : xh_H) : Prop := fx rT gL h0 h' ∧ (∀ aw p' o' fs', r = .inl (aw, p', o', fs') → fs' ≠ [] → v = some (.int 1) ∧ rr h' T n mem nn NW p' o' fs' ∧ xg 0 h'.2.1 39 29 = nI aw ∧ xg 0 h'.2.1 39 30 = nI 0) ∧ (∀ aw p' o', r = .inl (aw, p', o', []) → v = some (.int 1) ∧ xg 0 h'.2.1 39 30 = nI 1 ∧ rq0 h' T n mem nn NW p o) ∧ ∀ k pl, r = .inr (k, pl) → v = some (.int 0) ∧ xg 0 h'.2.1 39 13 = nI k ∧ xg 0 h'.2.1 39 14 = nI pl
theorem en_l {h0 h' : xh_H} {r : aRs} {v : Option Value} {p o aw p' o' : Nat} {fs' : List Nat} (er : r = .inl (aw, p', o', fs')) (hne : fs' ≠ []) (g : fx rT gL h0 h') (hv : v = some (.int 1)) (hr : rr h' T n mem nn NW p' o' fs') (ha : xg 0 h'.2.1 39 29 = nI aw) (hd : xg 0 h'.2.1 39 30 = nI 0) : en_Q h0 T n mem nn NW p o r v h' := by
  subst er
  refine ⟨g, fun _ _ _ _ e _ => ?_, fun _ _ _ e => ?_, fun _ _ e => (by cases e)⟩
  · cases e
    exact ⟨hv, hr, ha, hd⟩
  · cases e
    exact absurd rfl hne
theorem en_d {h0 h' : xh_H} {r : aRs} {v : Option Value} {p o aw p' o' : Nat} (er : r = .inl (aw, p', o', [])) (g : fx rT gL h0 h') (hv : v = some (.int 1)) (hd : xg 0 h'.2.1 39 30 = nI 1) (hr : rq0 h' T n mem nn NW p o) : en_Q h0 T n mem nn NW p o r v h' := by
  subst er
  refine ⟨g, fun _ _ _ _ e z => ?_, fun _ _ _ _ => ⟨hv, hd, hr⟩, fun _ _ e => (by cases e)⟩
  cases e
  exact absurd rfl z
theorem en_r {h0 h' : xh_H} {r : aRs} {v : Option Value} {p o k pl : Nat} (er : r = .inr (k, pl)) (g : fx rT gL h0 h') (hv : v = some (.int 0)) (h1 : xg 0 h'.2.1 39 13 = nI k) (h2 : xg 0 h'.2.1 39 14 = nI pl) : en_Q h0 T n mem nn NW p o r v h' := by
  subst er
  refine ⟨g, fun _ _ _ _ e _ => (by cases e), fun _ _ _ e => (by cases e), fun _ _ e => ?_⟩
  cases e
  exact ⟨hv, h1, h2⟩
theorem frs_t {h : xh_H} {fs : List Nat} (g : frs h fs) : frs h fs.tail := by
  cases fs with
  | nil => trivial
  | cons t fs => exact g.2.2
theorem tl_len {fs : List Nat} : fs.tail.length = fs.length - 1 := List.length_tail
set_option maxRecDepth 100000 in
set_option maxHeartbeats 4000000 in
theorem en_138 {f p o ty : Nat} {fs : List Nat} {h0 h : xh_H} {v1 x : Int32} (hq : a_rq a_tb h) (gi : GI h0 h T n mem nn NW p o fs 0) (wf : wfs fs) (hty : fs.head? = some ty) (e47 : xg 0 h.2.1 47 (fs.length - 1) = nI ty) (ty2 : ty ≤ 2) (e2 : ty = 2) (b93 : tkk T n p = 93) : xq f xi_X10_end_ xmi_X10_end_ 138 [(0, .ref 39), (1, .int v1), (2, .int x)] [] h (en_Q h0 T n mem nn NW p o (en T n p o fs)) := by
  have rr0 := gi.2.1
  have g0 := gi.1
  have hT : ∀ k, k < n → T k < 256 := fun k hk' => (rr0.1.2.2 k hk').1
  have rt := rr0.2.1
  have rb := (rkk_k (T := T) (n := n) (p := p)).1
  have kb := tkk_lt (T := T) (n := n) (p := p) hT
  have o120 := rr0.2.2.2.2.2.2.1
  have f1 := rr0.2.2.2.2.2.2.2.2.1
  have n16 := rr0.2.2.2.2.1.2.1
  have f13 := rr0.2.2.2.2.2.2.2.2.2.1
  have n6 := rr0.1.2.1
  have hh : ∀ j, fs.head? = some j ↔ ty = j := fun j => by rw [hty]; exact ⟨fun e => Option.some.inj e, fun e => by rw [e]⟩
  have fl2 : ty ≠ 0 → 2 ≤ fs.length := fun e => by
    have w := wfs_t wf (fun e1 => e ((hh 0).mp e1))
    have w2 := wfs_n w
    cases hf : fs with
    | nil => rw [hf] at f1; exact absurd f1 (by decide)
    | cons a b =>
      cases b with
      | nil => rw [hf] at w2; exact absurd rfl w2
      | cons c d => simp only [List.length_cons]; omega
  refine xq_n 149 [0, 1, 2] [(0, .ref 39), (1, .int v1), (2, .int x)] [.ref 39] (xh_ui h 39 28 ((xg 0 h.2.1 39 28) - (Int32.ofInt 1))) [] 9 hq rfl trivial (fun _ => ?_)
  rw [show (xg 0 h.2.1 39 28) = (nI (fs.length - 1)) from rr0.2.2.2.2.2.2.2.1]
  rw [show ((nI (fs.length - 1)) - (Int32.ofInt 1)) = nI (fs.length - 1 - 1) from nI_sub (b := 1) (by omega)]
  have hq : a_rq a_tb (xh_ui h 39 28 (nI (fs.length - 1 - 1))) := a_rq_ui hq
  have nz1 : tkk T n p ≠ 0 := by omega
  have le1 := tke_le nz1
  refine xq_run hq rfl rfl (go_q hq (rtp_f (S := rT) (L := gL) rr0.1 (fx_ui (fx_0) rfl) rfl (fun _ => rfl)) ((gx_k (by decide)).trans (rt.2.2.2.2.2 (by omega))) le1) ?_
  rintro v1 h1 ⟨rfl, g1, t1⟩
  have hq := fx_q g1 hq
  have rb1 := (rkk_k (T := T) (n := n) (p := tke T n p)).1
  have kb1 := tkk_lt (T := T) (n := n) (p := tke T n p) hT
  refine xq_n 153 [] [] [.int (Int32.ofInt 1)] h1 [] 3 hq rfl trivial (fun hq => ?_)
  have er : en T n p o fs = .inl (0, tke T n p, o, fs.tail) := by
    unfold en
    rw [if_pos ((hh 2).mpr e2)]
    repeat (first | rw [if_pos (by omega)] | rw [if_neg (by omega)])
    try rfl
  exact xq_ret rfl rfl rfl (en_l er (wfs_n (wfs_t wf (fun e => by have := (hh 0).mp e; omega))) (fx_t (fx_ui (g0) rfl) (fx_w g1 (fun _ _ z => gS_r (rS_t z)) (fun _ _ z => z))) rfl ⟨rtp_f (S := rT) (L := gL) rr0.1 (fx_t (fx_ui (fx_0) rfl) (fx_w g1 (fun _ _ z => gS_r (rS_t z)) (fun _ _ z => z))) rfl (fun _ => rfl), t1, (fx_i g1 rfl).trans ((gx_k (by decide)).trans (rr0.2.2.1)), rr0.2.2.2.1, nms_f (S := rT) (L := gL) rr0.2.2.2.2.1 (fx_t (fx_ui (fx_0) rfl) (fx_w g1 (fun _ _ z => gS_r (rS_t z)) (fun _ _ z => z))) rfl (fun _ => rfl), (fx_i g1 rfl).trans ((gx_k (by decide)).trans (rr0.2.2.2.2.2.1)), rr0.2.2.2.2.2.2.1, ((fx_i g1 rfl).trans (gx_s)).trans (by rw [tl_len]), by rw [tl_len]; omega, by rw [tl_len]; omega, frs_c (fun k hk' => (fx_i g1 rfl).trans (gx_o (by decide))) (frs_t rr0.2.2.2.2.2.2.2.2.2.2.1), (fx_i g1 rfl).trans ((gx_k (by decide)).trans (rr0.2.2.2.2.2.2.2.2.2.2.2))⟩ ((fx_i g1 rfl).trans ((gx_k (by decide)).trans (gi.2.2.1))) ((fx_i g1 rfl).trans ((gx_k (by decide)).trans (gi.2.2.2))))
set_option maxRecDepth 100000 in
set_option maxHeartbeats 4000000 in
theorem en_66 {f p o ty : Nat} {fs : List Nat} {h0 h : xh_H} {v1 x : Int32} (hq : a_rq a_tb h) (gi : GI h0 h T n mem nn NW p o fs 0) (wf : wfs fs) (hty : fs.head? = some ty) (e47 : xg 0 h.2.1 47 (fs.length - 1) = nI ty) (ty2 : ty ≤ 2) (e2 : ty = 2) : xq f xi_X10_end_ xmi_X10_end_ 66 [(0, .ref 39), (1, .int v1), (2, .int x)] [] h (en_Q h0 T n mem nn NW p o (en T n p o fs)) := by
  have rr0 := gi.2.1
  have g0 := gi.1
  have hT : ∀ k, k < n → T k < 256 := fun k hk' => (rr0.1.2.2 k hk').1
  have rt := rr0.2.1
  have rb := (rkk_k (T := T) (n := n) (p := p)).1
  have kb := tkk_lt (T := T) (n := n) (p := p) hT
  have o120 := rr0.2.2.2.2.2.2.1
  have f1 := rr0.2.2.2.2.2.2.2.2.1
  have n16 := rr0.2.2.2.2.1.2.1
  have f13 := rr0.2.2.2.2.2.2.2.2.2.1
  have n6 := rr0.1.2.1
  have hh : ∀ j, fs.head? = some j ↔ ty = j := fun j => by rw [hty]; exact ⟨fun e => Option.some.inj e, fun e => by rw [e]⟩
  have fl2 : ty ≠ 0 → 2 ≤ fs.length := fun e => by
    have w := wfs_t wf (fun e1 => e ((hh 0).mp e1))
    have w2 := wfs_n w
    cases hf : fs with
    | nil => rw [hf] at f1; exact absurd f1 (by decide)
    | cons a b =>
      cases b with
      | nil => rw [hf] at w2; exact absurd rfl w2
      | cons c d => simp only [List.length_cons]; omega
  have e47t : ∀ {h' : xh_H}, GI h0 h' T n mem nn NW p o fs 0 → xg 0 h'.2.1 47 (fs.length - 1) = nI ty := fun {h'} g => by
    have w := g.2.1.2.2.2.2.2.2.2.2.2.2.1
    cases hf : fs with
    | nil => rw [hf] at hty; cases hty
    | cons a b =>
      rw [hf] at w hty
      have hty : a = ty := Option.some.inj hty
      rw [← hty]
      exact w.1
  refine xq_n 79 [0, 1, 2] [(0, .ref 39), (1, .int v1), (2, .int x)] [.int 93, .ref 39] (xh_ui h 48 ((xg 0 h.2.1 39 28).toNatClampNeg) (Int32.ofInt 1)) [] 10 hq rfl trivial (fun _ => ?_)
  rw [show (xg 0 h.2.1 39 28) = (nI (fs.length - 1)) from rr0.2.2.2.2.2.2.2.1]
  rw [show ((nI (fs.length - 1)).toNatClampNeg) = (fs.length - 1) from nI_clamp (by omega)]
  have hq : a_rq a_tb (xh_ui h 48 (fs.length - 1) (Int32.ofInt 1)) := a_rq_ui hq
  refine xq_run hq rfl rfl (rsg_q (c := 93) (by decide) (by decide) hT (rtk_ui (rt) rfl) hq) ?_
  rintro v1 h_v1 ⟨rfl, rfl⟩
  cases b2 : (decide (tkk T n p = 93)) with
  | true =>
    have db2 := of_decide_eq_true b2
    refine xq_n 94 [0, 1, 2] [(0, .ref 39), (1, .int v1), (2, .int (Int32.ofInt 0))] [] (xh_ui h 48 (fs.length - 1) (Int32.ofInt 1)) [true] 5 hq rfl ⟨rfl, trivial⟩ (fun hq => ?_)
    exact el_94 (fun f x h hq gi => en_138 hq gi wf hty (e47t gi) ty2 e2 (by omega)) f _ _ hq (GI_f gi (fx_ui (fx_0) rfl))
  | false =>
    have db2 := of_decide_eq_false b2
    refine xq_n 91 [] [] [.int (Int32.ofInt 1)] (xh_ui (xh_ui h 48 (fs.length - 1) (Int32.ofInt 1)) 39 29 (Int32.ofInt 1)) [false] 7 hq rfl ⟨rfl, trivial⟩ (fun _ => ?_)
    have hq : a_rq a_tb (xh_ui (xh_ui h 48 (fs.length - 1) (Int32.ofInt 1)) 39 29 (Int32.ofInt 1)) := a_rq_ui hq
    have er : en T n p o fs = .inl (1, p, o, fs) := by
      unfold en
      rw [if_pos ((hh 2).mpr e2)]
      repeat (first | rw [if_pos (by omega)] | rw [if_neg (by omega)] | rw [if_pos b2] | rw [if_neg (by rw [b2]; decide)])
      try rfl
    exact xq_ret rfl rfl rfl (en_l er (wfs_n wf) (fx_ui (fx_ui (g0) rfl) rfl) rfl ⟨rtp_f (S := rT) (L := gL) rr0.1 (fx_ui (fx_ui (fx_0) rfl) rfl) rfl (fun _ => rfl), rtk_ui (rtk_ui (rt) rfl) rfl, (gx_k (by decide)).trans ((gx_o (by decide)).trans (rr0.2.2.1)), rr0.2.2.2.1, nms_f (S := rT) (L := gL) rr0.2.2.2.2.1 (fx_ui (fx_ui (fx_0) rfl) rfl) rfl (fun _ => rfl), (gx_k (by decide)).trans ((gx_o (by decide)).trans (rr0.2.2.2.2.2.1)), rr0.2.2.2.2.2.2.1, (gx_k (by decide)).trans ((gx_o (by decide)).trans (rr0.2.2.2.2.2.2.2.1)), rr0.2.2.2.2.2.2.2.2.1, rr0.2.2.2.2.2.2.2.2.2.1, frs_c (fun k hk' => (gx_o (by decide)).trans (gx_o (by decide))) rr0.2.2.2.2.2.2.2.2.2.2.1, (gx_k (by decide)).trans ((gx_o (by decide)).trans (rr0.2.2.2.2.2.2.2.2.2.2.2))⟩ (gx_s) ((gx_k (by decide)).trans ((gx_o (by decide)).trans (gi.2.2.2))))
set_option maxRecDepth 100000 in
set_option maxHeartbeats 4000000 in
theorem en_326 {f p o ty : Nat} {fs : List Nat} {h0 h : xh_H} {v1 x : Int32} (hq : a_rq a_tb h) (gi : GI h0 h T n mem nn NW p o fs 0) (wf : wfs fs) (hty : fs.head? = some ty) (e47 : xg 0 h.2.1 47 (fs.length - 1) = nI ty) (ty2 : ty ≤ 2) (e2 : ty ≠ 2) (a2 : ky T n p 2 = false) (a3 : ky T n p 3 = false) : xq f xi_X10_end_ xmi_X10_end_ 326 [(0, .ref 39), (1, .int v1), (2, .int x)] [] h (en_Q h0 T n mem nn NW p o (en T n p o fs)) := by
  have rr0 := gi.2.1
  have g0 := gi.1
  have hT : ∀ k, k < n → T k < 256 := fun k hk' => (rr0.1.2.2 k hk').1
  have rt := rr0.2.1
  have rb := (rkk_k (T := T) (n := n) (p := p)).1
  have kb := tkk_lt (T := T) (n := n) (p := p) hT
  have o120 := rr0.2.2.2.2.2.2.1
  have f1 := rr0.2.2.2.2.2.2.2.2.1
  have n16 := rr0.2.2.2.2.1.2.1
  have f13 := rr0.2.2.2.2.2.2.2.2.2.1
  have n6 := rr0.1.2.1
  have hh : ∀ j, fs.head? = some j ↔ ty = j := fun j => by rw [hty]; exact ⟨fun e => Option.some.inj e, fun e => by rw [e]⟩
  have fl2 : ty ≠ 0 → 2 ≤ fs.length := fun e => by
    have w := wfs_t wf (fun e1 => e ((hh 0).mp e1))
    have w2 := wfs_n w
    cases hf : fs with
    | nil => rw [hf] at f1; exact absurd f1 (by decide)
    | cons a b =>
      cases b with
      | nil => rw [hf] at w2; exact absurd rfl w2
      | cons c d => simp only [List.length_cons]; omega
  cases c1 : xe_c .ne (nI ty) 0 with
  | true =>
    have z1 : ty ≠ 0 := nq_net (a := ty) (b := 0) (by omega) (by omega) c1
    refine xq_n 369 [0, 1, 2] [(0, .ref 39), (1, .int v1), (2, .int x)] [.int 41, .ref 39] h [true] 10 hq rfl ⟨(show xe_c .ne (xg 0 h.2.1 47 ((xg 0 h.2.1 39 28).toNatClampNeg)) 0 = true by rw [show (xg 0 h.2.1 47 ((xg 0 h.2.1 39 28).toNatClampNeg)) = (nI ty) from (by rw [show (xg 0 h.2.1 39 28) = (nI (fs.length - 1)) from rr0.2.2.2.2.2.2.2.1, show ((nI (fs.length - 1)).toNatClampNeg) = (fs.length - 1) from nI_clamp (by omega)]; exact e47)]; exact c1), trivial⟩ (fun hq => ?_)
    refine xq_run hq rfl rfl (rsg_q (c := 41) (by decide) (by decide) hT (rt) hq) ?_
    rintro v2 h_v2 ⟨rfl, rfl⟩
    cases b3 : (decide (tkk T n p = 41)) with
    | true =>
      have db3 := of_decide_eq_true b3
      refine xq_n 392 [0, 1, 2] [(0, .ref 39), (1, .int v1), (2, .int x)] [.ref 39] (xh_ui h 39 28 ((xg 0 h.2.1 39 28) - (Int32.ofInt 1))) [true] 10 hq rfl ⟨rfl, trivial⟩ (fun _ => ?_)
      rw [show (xg 0 h.2.1 39 28) = (nI (fs.length - 1)) from rr0.2.2.2.2.2.2.2.1]
      rw [show ((nI (fs.length - 1)) - (Int32.ofInt 1)) = nI (fs.length - 1 - 1) from nI_sub (b := 1) (by omega)]
      have hq : a_rq a_tb (xh_ui h 39 28 (nI (fs.length - 1 - 1))) := a_rq_ui hq
      have nz4 : tkk T n p ≠ 0 := by omega
      have le4 := tke_le nz4
      refine xq_run hq rfl rfl (go_q hq (rtp_f (S := rT) (L := gL) rr0.1 (fx_ui (fx_0) rfl) rfl (fun _ => rfl)) ((gx_k (by decide)).trans (rt.2.2.2.2.2 (by omega))) le4) ?_
      rintro v4 h4 ⟨rfl, g4, t4⟩
      have hq := fx_q g4 hq
      have rb4 := (rkk_k (T := T) (n := n) (p := tke T n p)).1
      have kb4 := tkk_lt (T := T) (n := n) (p := tke T n p) hT
      refine xq_n 396 [] [] [.int (Int32.ofInt 1)] h4 [] 3 hq rfl trivial (fun hq => ?_)
      have er : en T n p o fs = .inl (0, tke T n p, o, fs.tail) := by
        unfold en
        rw [if_neg (fun e => e2 ((hh 2).mp e))]
        rw [if_neg (by rw [a2]; decide), if_neg (by rw [a3]; decide)]
        first | rw [if_pos ((hh 0).mpr (by omega))] | rw [if_neg (fun e => by have := (hh 0).mp e; omega)]
        repeat (first | rw [if_pos (by omega)] | rw [if_neg (by omega)] | rw [if_pos b3] | rw [if_neg (by rw [b3]; decide)])
        try rfl
      exact xq_ret rfl rfl rfl (en_l er (wfs_n (wfs_t wf (fun e => by have := (hh 0).mp e; omega))) (fx_t (fx_ui (g0) rfl) (fx_w g4 (fun _ _ z => gS_r (rS_t z)) (fun _ _ z => z))) rfl ⟨rtp_f (S := rT) (L := gL) rr0.1 (fx_t (fx_ui (fx_0) rfl) (fx_w g4 (fun _ _ z => gS_r (rS_t z)) (fun _ _ z => z))) rfl (fun _ => rfl), t4, (fx_i g4 rfl).trans ((gx_k (by decide)).trans (rr0.2.2.1)), rr0.2.2.2.1, nms_f (S := rT) (L := gL) rr0.2.2.2.2.1 (fx_t (fx_ui (fx_0) rfl) (fx_w g4 (fun _ _ z => gS_r (rS_t z)) (fun _ _ z => z))) rfl (fun _ => rfl), (fx_i g4 rfl).trans ((gx_k (by decide)).trans (rr0.2.2.2.2.2.1)), rr0.2.2.2.2.2.2.1, ((fx_i g4 rfl).trans (gx_s)).trans (by rw [tl_len]), by rw [tl_len]; omega, by rw [tl_len]; omega, frs_c (fun k hk' => (fx_i g4 rfl).trans (gx_o (by decide))) (frs_t rr0.2.2.2.2.2.2.2.2.2.2.1), (fx_i g4 rfl).trans ((gx_k (by decide)).trans (rr0.2.2.2.2.2.2.2.2.2.2.2))⟩ ((fx_i g4 rfl).trans ((gx_k (by decide)).trans (gi.2.2.1))) ((fx_i g4 rfl).trans ((gx_k (by decide)).trans (gi.2.2.2))))
    | false =>
      have db3 := of_decide_eq_false b3
      refine xq_n 377 [0, 1, 2] [(0, .ref 39), (1, .int v1), (2, .int x)] [.int (Int32.ofInt 1), .ref 39] h [false] 5 hq rfl ⟨rfl, trivial⟩ (fun hq => ?_)
      refine xq_run hq rfl rfl (bad_q (k := 1) hT (rt) hq) ?_
      rintro v5 h5 ⟨rfl, g5, f5, l5⟩
      have hq := fx_q g5 hq
      rw [show (if rkk T n p = 1 then 1 else 1) = 1 by split <;> rfl] at f5
      have er : en T n p o fs = .inr (1, tks T n p) := by
        unfold en
        rw [if_neg (fun e => e2 ((hh 2).mp e))]
        rw [if_neg (by rw [a2]; decide), if_neg (by rw [a3]; decide)]
        first | rw [if_pos ((hh 0).mpr (by omega))] | rw [if_neg (fun e => by have := (hh 0).mp e; omega)]
        repeat (first | rw [if_pos (by omega)] | rw [if_neg (by omega)] | rw [if_pos b3] | rw [if_neg (by rw [b3]; decide)])
        try rfl
      exact xq_ret rfl rfl rfl (en_r er (fx_t (g0) (fx_w g5 (fun _ _ z => bS_r (rS_t z)) (fun _ _ _ => rfl))) rfl (f5) (l5))
  | false =>
    have z1 : ty = 0 := nq_nef (a := ty) (b := 0) (by omega) (by omega) c1
    refine xq_n 346 [0, 1, 2] [(0, .ref 39), (1, .int v1), (2, .int x)] [.int 59, .ref 39] (xh_ui h 39 30 (Int32.ofInt 1)) [false] 13 hq rfl ⟨(show xe_c .ne (xg 0 h.2.1 47 ((xg 0 h.2.1 39 28).toNatClampNeg)) 0 = false by rw [show (xg 0 h.2.1 47 ((xg 0 h.2.1 39 28).toNatClampNeg)) = (nI ty) from (by rw [show (xg 0 h.2.1 39 28) = (nI (fs.length - 1)) from rr0.2.2.2.2.2.2.2.1, show ((nI (fs.length - 1)).toNatClampNeg) = (fs.length - 1) from nI_clamp (by omega)]; exact e47)]; exact c1), trivial⟩ (fun _ => ?_)
    have hq : a_rq a_tb (xh_ui h 39 30 (Int32.ofInt 1)) := a_rq_ui hq
    refine xq_run hq rfl rfl (rsg_q (c := 59) (by decide) (by decide) hT (rtk_ui (rt) rfl) hq) ?_
    rintro v6 h_v6 ⟨rfl, rfl⟩
    cases b7 : (decide (tkk T n p = 59)) with
    | true =>
      have db7 := of_decide_eq_true b7
      refine xq_n 365 [] [] [.int (Int32.ofInt 1)] (xh_ui h 39 30 (Int32.ofInt 1)) [true] 5 hq rfl ⟨rfl, trivial⟩ (fun hq => ?_)
      have er : en T n p o fs = .inl (0, tke T n p, o, []) := by
        unfold en
        rw [if_neg (fun e => e2 ((hh 2).mp e))]
        rw [if_neg (by rw [a2]; decide), if_neg (by rw [a3]; decide)]
        first | rw [if_pos ((hh 0).mpr (by omega))] | rw [if_neg (fun e => by have := (hh 0).mp e; omega)]
        repeat (first | rw [if_pos (by omega)] | rw [if_neg (by omega)] | rw [if_pos b7] | rw [if_neg (by rw [b7]; decide)])
        try rfl
      exact xq_ret rfl rfl rfl (en_d er (fx_ui (g0) rfl) rfl (gx_s) ⟨rtp_f (S := rT) (L := gL) rr0.1 (fx_ui (fx_0) rfl) rfl (fun _ => rfl), rtk_ui (rt) rfl, (gx_k (by decide)).trans (rr0.2.2.1), rr0.2.2.2.1, nms_f (S := rT) (L := gL) rr0.2.2.2.2.1 (fx_ui (fx_0) rfl) rfl (fun _ => rfl), (gx_k (by decide)).trans (rr0.2.2.2.2.2.1), rr0.2.2.2.2.2.2.1, (gx_k (by decide)).trans (rr0.2.2.2.2.2.2.2.2.2.2.2)⟩)
    | false =>
      have db7 := of_decide_eq_false b7
      refine xq_n 354 [0, 1, 2] [(0, .ref 39), (1, .int v1), (2, .int x)] [.int (Int32.ofInt 1), .ref 39] (xh_ui h 39 30 (Int32.ofInt 1)) [false] 5 hq rfl ⟨rfl, trivial⟩ (fun hq => ?_)
      refine xq_run hq rfl rfl (bad_q (k := 1) hT (rtk_ui (rt) rfl) hq) ?_
      rintro v8 h8 ⟨rfl, g8, f8, l8⟩
      have hq := fx_q g8 hq
      rw [show (if rkk T n p = 1 then 1 else 1) = 1 by split <;> rfl] at f8
      refine xq_n 365 [] [] [.int (Int32.ofInt 0)] h8 [true] 4 hq rfl ⟨(by decide), trivial⟩ (fun hq => ?_)
      have er : en T n p o fs = .inr (1, tks T n p) := by
        unfold en
        rw [if_neg (fun e => e2 ((hh 2).mp e))]
        rw [if_neg (by rw [a2]; decide), if_neg (by rw [a3]; decide)]
        first | rw [if_pos ((hh 0).mpr (by omega))] | rw [if_neg (fun e => by have := (hh 0).mp e; omega)]
        repeat (first | rw [if_pos (by omega)] | rw [if_neg (by omega)] | rw [if_pos b7] | rw [if_neg (by rw [b7]; decide)])
        try rfl
      exact xq_ret rfl rfl rfl (en_r er (fx_t (fx_ui (g0) rfl) (fx_w g8 (fun _ _ z => bS_r (rS_t z)) (fun _ _ _ => rfl))) rfl (f8) (l8))
set_option maxRecDepth 100000 in
set_option maxHeartbeats 4000000 in
theorem en_279 {f p o ty : Nat} {fs : List Nat} {h0 h : xh_H} {v1 x : Int32} (hq : a_rq a_tb h) (gi : GI h0 h T n mem nn NW p o fs 0) (wf : wfs fs) (hty : fs.head? = some ty) (e47 : xg 0 h.2.1 47 (fs.length - 1) = nI ty) (ty2 : ty ≤ 2) (e2 : ty ≠ 2) (a2 : ky T n p 2 = false) : xq f xi_X10_end_ xmi_X10_end_ 279 [(0, .ref 39), (1, .int v1), (2, .int x)] [] h (en_Q h0 T n mem nn NW p o (en T n p o fs)) := by
  have rr0 := gi.2.1
  have g0 := gi.1
  have hT : ∀ k, k < n → T k < 256 := fun k hk' => (rr0.1.2.2 k hk').1
  have rt := rr0.2.1
  have rb := (rkk_k (T := T) (n := n) (p := p)).1
  have kb := tkk_lt (T := T) (n := n) (p := p) hT
  have o120 := rr0.2.2.2.2.2.2.1
  have f1 := rr0.2.2.2.2.2.2.2.2.1
  have n16 := rr0.2.2.2.2.1.2.1
  have f13 := rr0.2.2.2.2.2.2.2.2.2.1
  have n6 := rr0.1.2.1
  have hh : ∀ j, fs.head? = some j ↔ ty = j := fun j => by rw [hty]; exact ⟨fun e => Option.some.inj e, fun e => by rw [e]⟩
  have fl2 : ty ≠ 0 → 2 ≤ fs.length := fun e => by
    have w := wfs_t wf (fun e1 => e ((hh 0).mp e1))
    have w2 := wfs_n w
    cases hf : fs with
    | nil => rw [hf] at f1; exact absurd f1 (by decide)
    | cons a b =>
      cases b with
      | nil => rw [hf] at w2; exact absurd rfl w2
      | cons c d => simp only [List.length_cons]; omega
  have e47t : ∀ {h' : xh_H}, GI h0 h' T n mem nn NW p o fs 0 → xg 0 h'.2.1 47 (fs.length - 1) = nI ty := fun {h'} g => by
    have w := g.2.1.2.2.2.2.2.2.2.2.2.2.1
    cases hf : fs with
    | nil => rw [hf] at hty; cases hty
    | cons a b =>
      rw [hf] at w hty
      have hty : a = ty := Option.some.inj hty
      rw [← hty]
      exact w.1
  refine xq_n 280 [0, 1, 2] [(0, .ref 39), (1, .int v1), (2, .int x)] [.ref 39] h [] 3 hq rfl trivial (fun hq => ?_)
  refine xq_run hq rfl rfl (rw3_q hT (rt) hq) ?_
  rintro v1 h_v1 ⟨rfl, rfl⟩
  cases b2 : (ky T n p 3) with
  | true =>
    have db2 := of_decide_eq_true b2
    refine xq_n 292 [0, 1, 2] [(0, .ref 39), (1, .int v1), (2, .int x)] [.ref 39] (xh_ui h 39 29 (Int32.ofInt 1)) [false] 7 hq rfl ⟨rfl, trivial⟩ (fun _ => ?_)
    have hq : a_rq a_tb (xh_ui h 39 29 (Int32.ofInt 1)) := a_rq_ui hq
    have nz3 : tkk T n p ≠ 0 := by omega
    have le3 := tke_le nz3
    refine xq_run hq rfl rfl (go_q hq (rtp_f (S := rT) (L := gL) rr0.1 (fx_ui (fx_0) rfl) rfl (fun _ => rfl)) ((gx_k (by decide)).trans (rt.2.2.2.2.2 (by omega))) le3) ?_
    rintro v3 h3 ⟨rfl, g3, t3⟩
    have hq := fx_q g3 hq
    have rb3 := (rkk_k (T := T) (n := n) (p := tke T n p)).1
    have kb3 := tkk_lt (T := T) (n := n) (p := tke T n p) hT
    refine xq_n 296 [] [] [.int (Int32.ofInt 1)] h3 [] 3 hq rfl trivial (fun hq => ?_)
    have er : en T n p o fs = .inl (1, tke T n p, o, fs) := by
      unfold en
      rw [if_neg (fun e => e2 ((hh 2).mp e))]
      rw [if_neg (by rw [a2]; decide)]
      repeat (first | rw [if_pos (by omega)] | rw [if_neg (by omega)] | rw [if_pos b2] | rw [if_neg (by rw [b2]; decide)])
      try rfl
    exact xq_ret rfl rfl rfl (en_l er (wfs_n wf) (fx_t (fx_ui (g0) rfl) (fx_w g3 (fun _ _ z => gS_r (rS_t z)) (fun _ _ z => z))) rfl ⟨rtp_f (S := rT) (L := gL) rr0.1 (fx_t (fx_ui (fx_0) rfl) (fx_w g3 (fun _ _ z => gS_r (rS_t z)) (fun _ _ z => z))) rfl (fun _ => rfl), t3, (fx_i g3 rfl).trans ((gx_k (by decide)).trans (rr0.2.2.1)), rr0.2.2.2.1, nms_f (S := rT) (L := gL) rr0.2.2.2.2.1 (fx_t (fx_ui (fx_0) rfl) (fx_w g3 (fun _ _ z => gS_r (rS_t z)) (fun _ _ z => z))) rfl (fun _ => rfl), (fx_i g3 rfl).trans ((gx_k (by decide)).trans (rr0.2.2.2.2.2.1)), rr0.2.2.2.2.2.2.1, (fx_i g3 rfl).trans ((gx_k (by decide)).trans (rr0.2.2.2.2.2.2.2.1)), rr0.2.2.2.2.2.2.2.2.1, rr0.2.2.2.2.2.2.2.2.2.1, frs_c (fun k hk' => (fx_i g3 rfl).trans (gx_o (by decide))) rr0.2.2.2.2.2.2.2.2.2.2.1, (fx_i g3 rfl).trans ((gx_k (by decide)).trans (rr0.2.2.2.2.2.2.2.2.2.2.2))⟩ ((fx_i g3 rfl).trans (gx_s)) ((fx_i g3 rfl).trans ((gx_k (by decide)).trans (gi.2.2.2))))
  | false =>
    have db2 := of_decide_eq_false b2
    refine xq_n 299 [0, 1, 2] [(0, .ref 39), (1, .int v1), (2, .int (Int32.ofInt 0))] [] h [true] 5 hq rfl ⟨rfl, trivial⟩ (fun hq => ?_)
    exact el_299 (fun f x h hq gi => en_326 hq gi wf hty (e47t gi) ty2 e2 a2 b2) f _ _ hq (gi)
set_option maxRecDepth 100000 in
set_option maxHeartbeats 4000000 in
theorem en_202 {f p o ty : Nat} {fs : List Nat} {h0 h : xh_H} {v1 x : Int32} (hq : a_rq a_tb h) (gi : GI h0 h T n mem nn NW p o fs 0) (wf : wfs fs) (hty : fs.head? = some ty) (e47 : xg 0 h.2.1 47 (fs.length - 1) = nI ty) (ty2 : ty ≤ 2) (e2 : ty ≠ 2) : xq f xi_X10_end_ xmi_X10_end_ 202 [(0, .ref 39), (1, .int v1), (2, .int x)] [] h (en_Q h0 T n mem nn NW p o (en T n p o fs)) := by
  have rr0 := gi.2.1
  have g0 := gi.1
  have hT : ∀ k, k < n → T k < 256 := fun k hk' => (rr0.1.2.2 k hk').1
  have rt := rr0.2.1
  have rb := (rkk_k (T := T) (n := n) (p := p)).1
  have kb := tkk_lt (T := T) (n := n) (p := p) hT
  have o120 := rr0.2.2.2.2.2.2.1
  have f1 := rr0.2.2.2.2.2.2.2.2.1
  have n16 := rr0.2.2.2.2.1.2.1
  have f13 := rr0.2.2.2.2.2.2.2.2.2.1
  have n6 := rr0.1.2.1
  have hh : ∀ j, fs.head? = some j ↔ ty = j := fun j => by rw [hty]; exact ⟨fun e => Option.some.inj e, fun e => by rw [e]⟩
  have fl2 : ty ≠ 0 → 2 ≤ fs.length := fun e => by
    have w := wfs_t wf (fun e1 => e ((hh 0).mp e1))
    have w2 := wfs_n w
    cases hf : fs with
    | nil => rw [hf] at f1; exact absurd f1 (by decide)
    | cons a b =>
      cases b with
      | nil => rw [hf] at w2; exact absurd rfl w2
      | cons c d => simp only [List.length_cons]; omega
  have e47t : ∀ {h' : xh_H}, GI h0 h' T n mem nn NW p o fs 0 → xg 0 h'.2.1 47 (fs.length - 1) = nI ty := fun {h'} g => by
    have w := g.2.1.2.2.2.2.2.2.2.2.2.2.1
    cases hf : fs with
    | nil => rw [hf] at hty; cases hty
    | cons a b =>
      rw [hf] at w hty
      have hty : a = ty := Option.some.inj hty
      rw [← hty]
      exact w.1
  refine xq_n 203 [0, 1, 2] [(0, .ref 39), (1, .int v1), (2, .int x)] [.ref 39] h [] 3 hq rfl trivial (fun hq => ?_)
  refine xq_run hq rfl rfl (rw2_q hT (rt) hq) ?_
  rintro v1 h_v1 ⟨rfl, rfl⟩
  cases b2 : (ky T n p 2) with
  | true =>
    have db2 := of_decide_eq_true b2
    refine xq_n 215 [0, 1, 2] [(0, .ref 39), (1, .int v1), (2, .int x)] [.ref 39] (xh_ui h 39 29 (Int32.ofInt 1)) [false] 7 hq rfl ⟨rfl, trivial⟩ (fun _ => ?_)
    have hq : a_rq a_tb (xh_ui h 39 29 (Int32.ofInt 1)) := a_rq_ui hq
    have nz3 : tkk T n p ≠ 0 := by omega
    have le3 := tke_le nz3
    refine xq_run hq rfl rfl (go_q hq (rtp_f (S := rT) (L := gL) rr0.1 (fx_ui (fx_0) rfl) rfl (fun _ => rfl)) ((gx_k (by decide)).trans (rt.2.2.2.2.2 (by omega))) le3) ?_
    rintro v3 h3 ⟨rfl, g3, t3⟩
    have hq := fx_q g3 hq
    have rb3 := (rkk_k (T := T) (n := n) (p := tke T n p)).1
    have kb3 := tkk_lt (T := T) (n := n) (p := tke T n p) hT
    refine xq_n 219 [] [] [.int (Int32.ofInt 1)] h3 [] 3 hq rfl trivial (fun hq => ?_)
    have er : en T n p o fs = .inl (1, tke T n p, o, fs) := by
      unfold en
      rw [if_neg (fun e => e2 ((hh 2).mp e))]
      repeat (first | rw [if_pos (by omega)] | rw [if_neg (by omega)] | rw [if_pos b2] | rw [if_neg (by rw [b2]; decide)])
      try rfl
    exact xq_ret rfl rfl rfl (en_l er (wfs_n wf) (fx_t (fx_ui (g0) rfl) (fx_w g3 (fun _ _ z => gS_r (rS_t z)) (fun _ _ z => z))) rfl ⟨rtp_f (S := rT) (L := gL) rr0.1 (fx_t (fx_ui (fx_0) rfl) (fx_w g3 (fun _ _ z => gS_r (rS_t z)) (fun _ _ z => z))) rfl (fun _ => rfl), t3, (fx_i g3 rfl).trans ((gx_k (by decide)).trans (rr0.2.2.1)), rr0.2.2.2.1, nms_f (S := rT) (L := gL) rr0.2.2.2.2.1 (fx_t (fx_ui (fx_0) rfl) (fx_w g3 (fun _ _ z => gS_r (rS_t z)) (fun _ _ z => z))) rfl (fun _ => rfl), (fx_i g3 rfl).trans ((gx_k (by decide)).trans (rr0.2.2.2.2.2.1)), rr0.2.2.2.2.2.2.1, (fx_i g3 rfl).trans ((gx_k (by decide)).trans (rr0.2.2.2.2.2.2.2.1)), rr0.2.2.2.2.2.2.2.2.1, rr0.2.2.2.2.2.2.2.2.2.1, frs_c (fun k hk' => (fx_i g3 rfl).trans (gx_o (by decide))) rr0.2.2.2.2.2.2.2.2.2.2.1, (fx_i g3 rfl).trans ((gx_k (by decide)).trans (rr0.2.2.2.2.2.2.2.2.2.2.2))⟩ ((fx_i g3 rfl).trans (gx_s)) ((fx_i g3 rfl).trans ((gx_k (by decide)).trans (gi.2.2.2))))
  | false =>
    have db2 := of_decide_eq_false b2
    refine xq_n 222 [0, 1, 2] [(0, .ref 39), (1, .int v1), (2, .int (Int32.ofInt 0))] [] h [true] 5 hq rfl ⟨rfl, trivial⟩ (fun hq => ?_)
    exact el_222 (fun f x h hq gi => en_279 hq gi wf hty (e47t gi) ty2 e2 b2) f _ _ hq (gi)
set_option maxRecDepth 100000 in
set_option maxHeartbeats 4000000 in
/-- X10.end -/
theorem en_q {f p o ty : Nat} {fs : List Nat} {h0 h : xh_H} (hq : a_rq a_tb h) (gi : GI h0 h T n mem nn NW p o fs 0) (wf : wfs fs) (hty : fs.head? = some ty) (e47 : xg 0 h.2.1 47 (fs.length - 1) = nI ty) (ty2 : ty ≤ 2) : xq f xi_X10_end_ xmi_X10_end_ 0 [(0, .ref 39)] [] h (en_Q h0 T n mem nn NW p o (en T n p o fs)) := by
  have rr0 := gi.2.1
  have g0 := gi.1
  have hT : ∀ k, k < n → T k < 256 := fun k hk' => (rr0.1.2.2 k hk').1
  have rt := rr0.2.1
  have rb := (rkk_k (T := T) (n := n) (p := p)).1
  have kb := tkk_lt (T := T) (n := n) (p := p) hT
  have o120 := rr0.2.2.2.2.2.2.1
  have f1 := rr0.2.2.2.2.2.2.2.2.1
  have n16 := rr0.2.2.2.2.1.2.1
  have f13 := rr0.2.2.2.2.2.2.2.2.2.1
  have n6 := rr0.1.2.1
  have e47t : ∀ {h' : xh_H}, GI h0 h' T n mem nn NW p o fs 0 → xg 0 h'.2.1 47 (fs.length - 1) = nI ty := fun {h'} g => by
    have w := g.2.1.2.2.2.2.2.2.2.2.2.2.1
    cases hf : fs with
    | nil => rw [hf] at hty; cases hty
    | cons a b =>
      rw [hf] at w hty
      have hty : a = ty := Option.some.inj hty
      rw [← hty]
      exact w.1
  cases c1 : xe_c .ne (nI ty) (Int32.ofInt 2) with
  | true =>
    have z1 : ty ≠ 2 := nq_net (a := ty) (b := 2) (by omega) (by omega) c1
    refine xq_n 156 [0, 1, 2] [(0, .ref 39), (1, .int (4096 * (xg 0 h.2.1 39 28))), (2, .int (Int32.ofInt 0))] [] h [true] 16 hq rfl ⟨(show xe_c .ne (xg 0 h.2.1 47 ((xg 0 h.2.1 39 28).toNatClampNeg)) (Int32.ofInt 2) = true by rw [show (xg 0 h.2.1 47 ((xg 0 h.2.1 39 28).toNatClampNeg)) = (nI ty) from (by rw [show (xg 0 h.2.1 39 28) = (nI (fs.length - 1)) from rr0.2.2.2.2.2.2.2.1, show ((nI (fs.length - 1)).toNatClampNeg) = (fs.length - 1) from nI_clamp (by omega)]; exact e47)]; exact c1), trivial⟩ (fun hq => ?_)
    rw [show (xg 0 h.2.1 39 28) = (nI (fs.length - 1)) from rr0.2.2.2.2.2.2.2.1]
    exact el_156 (fun f x h hq gi => en_202 hq gi wf hty (e47t gi) ty2 (by omega)) f _ _ hq gi
  | false =>
    have z1 : ty = 2 := nq_nef (a := ty) (b := 2) (by omega) (by omega) c1
    refine xq_n 24 [0, 1, 2] [(0, .ref 39), (1, .int (4096 * (xg 0 h.2.1 39 28))), (2, .int (Int32.ofInt 0))] [] h [false] 16 hq rfl ⟨(show xe_c .ne (xg 0 h.2.1 47 ((xg 0 h.2.1 39 28).toNatClampNeg)) (Int32.ofInt 2) = false by rw [show (xg 0 h.2.1 47 ((xg 0 h.2.1 39 28).toNatClampNeg)) = (nI ty) from (by rw [show (xg 0 h.2.1 39 28) = (nI (fs.length - 1)) from rr0.2.2.2.2.2.2.2.1, show ((nI (fs.length - 1)).toNatClampNeg) = (fs.length - 1) from nI_clamp (by omega)]; exact e47)]; exact c1), trivial⟩ (fun hq => ?_)
    rw [show (xg 0 h.2.1 39 28) = (nI (fs.length - 1)) from rr0.2.2.2.2.2.2.2.1]
    exact el_24 (fun f x h hq gi => en_66 hq gi wf hty (e47t gi) ty2 (by omega)) f _ _ hq gi
end XRH
