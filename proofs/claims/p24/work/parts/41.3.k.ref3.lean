section
section XRH
variable {T : Nat → Nat} {n mem nn : Nat} {NW : Nat → Nat}
/-- while a step is done -/
def GI (h0 h : xh_H) (T : Nat → Nat) (n mem nn : Nat) (NW : Nat → Nat) (p o : Nat) (fs : List Nat) (aw : Nat) : Prop := fx rT gL h0 h ∧ rr h T n mem nn NW p o fs ∧ xg 0 h.2.1 39 29 = nI aw ∧ xg 0 h.2.1 39 30 = nI 0
def eS (c _k : Nat) : Bool := Nat.beq c 41 || (Nat.beq c 42 || (Nat.beq c 45 || (Nat.beq c 46 || Nat.beq c 48)))
theorem eS_r {c k : Nat} (h : rT c k = false) : eS c k = false := by
  have h := rS_t h
  unfold rS at h
  unfold eS
  obtain ⟨h1, h2⟩ := or_f h
  obtain ⟨h41, h2⟩ := or_f h2
  obtain ⟨h42, h2⟩ := or_f h2
  obtain ⟨h45, h2⟩ := or_f h2
  obtain ⟨h46, h2⟩ := or_f h2
  obtain ⟨h47, h2⟩ := or_f h2
  obtain ⟨h48, h49⟩ := or_f h2
  rw [h41, h42, h45, h46, h48]
  rfl
theorem rr_f {h h' : xh_H} {p o : Nat} {fs : List Nat} (r : rr h T n mem nn NW p o fs) (g : fx eS fN h h') : rr h' T n mem nn NW p o fs := by
  obtain ⟨r1, r2, r3, r4, r5, r6, r7, r8, r9, r10, r11, r12⟩ := r
  exact ⟨rtp_f r1 g rfl (fun _ => rfl), rtk_f r2 g (fun j j1 j2 => rfl) rfl, by rw [fx_i g rfl]; exact r3, r4, nms_f r5 g rfl (fun _ => rfl), by rw [fx_i g rfl]; exact r6, r7, by rw [fx_i g rfl]; exact r8, r9, r10, frs_c (fun k _ => fx_i g rfl) r11, by rw [fx_i g rfl]; exact r12⟩
theorem GI_f {h0 h h' : xh_H} {p o aw : Nat} {fs : List Nat} (r : GI h0 h T n mem nn NW p o fs aw) (g : fx eS fN h h') : GI h0 h' T n mem nn NW p o fs aw := ⟨fx_t r.1 (fx_w g (fun _ _ => eS_r) (fun _ _ _ => rfl)), rr_f r.2.1 g, by rw [fx_i g rfl]; exact r.2.2.1, by rw [fx_i g rfl]; exact r.2.2.2⟩
set_option maxRecDepth 100000 in
set_option maxHeartbeats 4000000 in
theorem el_24 {p o aw : Nat} {fs : List Nat} {h0 : xh_H} {v1 : Int32} {Q : Option Value → xh_H → Prop} (K : ∀ (f : Nat) (x : Int32) (h : xh_H), a_rq a_tb h → GI h0 h T n mem nn NW p o fs aw → xq f xi_X10_end_ xmi_X10_end_ 66 [(0, .ref 39), (1, .int v1), (2, .int x)] [] h Q) : ∀ (f : Nat) (x : Int32) (h : xh_H), a_rq a_tb h → GI h0 h T n mem nn NW p o fs aw → xq f xi_X10_end_ xmi_X10_end_ 24 [(0, .ref 39), (1, .int v1), (2, .int x)] [] h Q := by
  intro f
  induction f with
  | zero => intros; exact xq_0
  | succ f ih =>
    intro x h hq gi
    cases c1 : xe_c .ge x 4096 with
    | true =>
      refine xq_m 66 [0, 1, 2] [(0, .ref 39), (1, .int v1), (2, .int x)] [] h [true] 5 hq rfl ⟨c1, trivial⟩ (fun hq => ?_)
      exact K f _ _ hq gi
    | false =>
      cases c2 : xe_c .eq (xg 0 h.2.1 45 x.toNatClampNeg) 0 with
      | true =>
        refine xq_m 24 [0, 1, 2] [(0, .ref 39), (1, .int v1), (2, .int (x + Int32.ofInt 1))] [] h [false, true] 12 hq rfl ⟨c1, c2, trivial⟩ (fun hq => ?_)
        exact ih _ _ hq (GI_f gi (fx_0))
      | false =>
        refine xq_m 24 [0, 1, 2] [(0, .ref 39), (1, .int v1), (2, .int (x + Int32.ofInt 1))] [] (xh_ui h 46 ((v1 + x).toNatClampNeg) ((xg 0 h.2.1 46 ((v1 + x).toNatClampNeg)) + (xg 0 h.2.1 48 ((xg 0 h.2.1 39 28).toNatClampNeg)))) [false, false] 26 hq rfl ⟨c1, c2, trivial⟩ (fun _ => ?_)
        have hq : a_rq a_tb (xh_ui h 46 ((v1 + x).toNatClampNeg) ((xg 0 h.2.1 46 ((v1 + x).toNatClampNeg)) + (xg 0 h.2.1 48 ((xg 0 h.2.1 39 28).toNatClampNeg)))) := a_rq_ui hq
        exact ih _ _ hq (GI_f gi (fx_ui (fx_0) rfl))
set_option maxRecDepth 100000 in
set_option maxHeartbeats 4000000 in
theorem el_94 {p o aw : Nat} {fs : List Nat} {h0 : xh_H} {v1 : Int32} {Q : Option Value → xh_H → Prop} (K : ∀ (f : Nat) (x : Int32) (h : xh_H), a_rq a_tb h → GI h0 h T n mem nn NW p o fs aw → xq f xi_X10_end_ xmi_X10_end_ 138 [(0, .ref 39), (1, .int v1), (2, .int x)] [] h Q) : ∀ (f : Nat) (x : Int32) (h : xh_H), a_rq a_tb h → GI h0 h T n mem nn NW p o fs aw → xq f xi_X10_end_ xmi_X10_end_ 94 [(0, .ref 39), (1, .int v1), (2, .int x)] [] h Q := by
  intro f
  induction f with
  | zero => intros; exact xq_0
  | succ f ih =>
    intro x h hq gi
    cases c1 : xe_c .ge x 4096 with
    | true =>
      refine xq_m 138 [0, 1, 2] [(0, .ref 39), (1, .int v1), (2, .int x)] [] h [true] 5 hq rfl ⟨c1, trivial⟩ (fun hq => ?_)
      exact K f _ _ hq gi
    | false =>
      cases c2 : xe_c .lt (xg 0 h.2.1 46 ((v1 + x).toNatClampNeg)) (xg 0 h.2.1 49 ((xg 0 h.2.1 39 28).toNatClampNeg)) with
      | true =>
        refine xq_m 94 [0, 1, 2] [(0, .ref 39), (1, .int v1), (2, .int (x + Int32.ofInt 1))] [] (xh_ui h 45 x.toNatClampNeg (vp_nar .boolean (Int32.ofInt 0))) [false, true] 24 hq rfl ⟨c1, c2, trivial⟩ (fun _ => ?_)
        have hq : a_rq a_tb (xh_ui h 45 x.toNatClampNeg (vp_nar .boolean (Int32.ofInt 0))) := a_rq_ui hq
        exact ih _ _ hq (GI_f gi (fx_ui (fx_0) rfl))
      | false =>
        refine xq_m 94 [0, 1, 2] [(0, .ref 39), (1, .int v1), (2, .int (x + Int32.ofInt 1))] [] (xh_ui h 45 x.toNatClampNeg (vp_nar .boolean (Int32.ofInt 1))) [false, false] 25 hq rfl ⟨c1, c2, trivial⟩ (fun _ => ?_)
        have hq : a_rq a_tb (xh_ui h 45 x.toNatClampNeg (vp_nar .boolean (Int32.ofInt 1))) := a_rq_ui hq
        exact ih _ _ hq (GI_f gi (fx_ui (fx_0) rfl))
set_option maxRecDepth 100000 in
set_option maxHeartbeats 4000000 in
theorem el_156 {p o aw : Nat} {fs : List Nat} {h0 : xh_H} {v1 : Int32} {Q : Option Value → xh_H → Prop} (K : ∀ (f : Nat) (x : Int32) (h : xh_H), a_rq a_tb h → GI h0 h T n mem nn NW p o fs aw → xq f xi_X10_end_ xmi_X10_end_ 202 [(0, .ref 39), (1, .int v1), (2, .int x)] [] h Q) : ∀ (f : Nat) (x : Int32) (h : xh_H), a_rq a_tb h → GI h0 h T n mem nn NW p o fs aw → xq f xi_X10_end_ xmi_X10_end_ 156 [(0, .ref 39), (1, .int v1), (2, .int x)] [] h Q := by
  intro f
  induction f with
  | zero => intros; exact xq_0
  | succ f ih =>
    intro x h hq gi
    cases c1 : xe_c .ge x 4096 with
    | true =>
      refine xq_m 202 [0, 1, 2] [(0, .ref 39), (1, .int v1), (2, .int x)] [] h [true] 5 hq rfl ⟨c1, trivial⟩ (fun hq => ?_)
      exact K f _ _ hq gi
    | false =>
      cases c2 : xe_c .eq (xg 0 h.2.1 42 ((v1 + x).toNatClampNeg)) 0 with
      | true =>
        refine xq_m 156 [0, 1, 2] [(0, .ref 39), (1, .int v1), (2, .int (x + Int32.ofInt 1))] [] (xh_ui h 42 ((v1 + x).toNatClampNeg) (vp_nar .boolean (Int32.ofInt 0))) [false, true] 21 hq rfl ⟨c1, c2, trivial⟩ (fun _ => ?_)
        have hq : a_rq a_tb (xh_ui h 42 ((v1 + x).toNatClampNeg) (vp_nar .boolean (Int32.ofInt 0))) := a_rq_ui hq
        exact ih _ _ hq (GI_f gi (fx_ui (fx_0) rfl))
      | false =>
        cases c3 : xe_c .eq (xg 0 h.2.1 45 x.toNatClampNeg) 0 with
        | true =>
          refine xq_m 156 [0, 1, 2] [(0, .ref 39), (1, .int v1), (2, .int (x + Int32.ofInt 1))] [] (xh_ui h 42 ((v1 + x).toNatClampNeg) (vp_nar .boolean (Int32.ofInt 0))) [false, false, true] 26 hq rfl ⟨c1, c2, c3, trivial⟩ (fun _ => ?_)
          have hq : a_rq a_tb (xh_ui h 42 ((v1 + x).toNatClampNeg) (vp_nar .boolean (Int32.ofInt 0))) := a_rq_ui hq
          exact ih _ _ hq (GI_f gi (fx_ui (fx_0) rfl))
        | false =>
          refine xq_m 156 [0, 1, 2] [(0, .ref 39), (1, .int v1), (2, .int (x + Int32.ofInt 1))] [] (xh_ui h 42 ((v1 + x).toNatClampNeg) (vp_nar .boolean (Int32.ofInt 1))) [false, false, false] 27 hq rfl ⟨c1, c2, c3, trivial⟩ (fun _ => ?_)
          have hq : a_rq a_tb (xh_ui h 42 ((v1 + x).toNatClampNeg) (vp_nar .boolean (Int32.ofInt 1))) := a_rq_ui hq
          exact ih _ _ hq (GI_f gi (fx_ui (fx_0) rfl))
set_option maxRecDepth 100000 in
set_option maxHeartbeats 4000000 in
theorem el_222 {p o aw : Nat} {fs : List Nat} {h0 : xh_H} {v1 : Int32} {Q : Option Value → xh_H → Prop} (K : ∀ (f : Nat) (x : Int32) (h : xh_H), a_rq a_tb h → GI h0 h T n mem nn NW p o fs aw → xq f xi_X10_end_ xmi_X10_end_ 279 [(0, .ref 39), (1, .int v1), (2, .int x)] [] h Q) : ∀ (f : Nat) (x : Int32) (h : xh_H), a_rq a_tb h → GI h0 h T n mem nn NW p o fs aw → xq f xi_X10_end_ xmi_X10_end_ 222 [(0, .ref 39), (1, .int v1), (2, .int x)] [] h Q := by
  intro f
  induction f with
  | zero => intros; exact xq_0
  | succ f ih =>
    intro x h hq gi
    cases c1 : xe_c .ge x 4096 with
    | true =>
      refine xq_m 279 [0, 1, 2] [(0, .ref 39), (1, .int v1), (2, .int x)] [] h [true] 5 hq rfl ⟨c1, trivial⟩ (fun hq => ?_)
      exact K f _ _ hq gi
    | false =>
      cases c2 : xe_c .ne (xg 0 h.2.1 41 ((v1 + x).toNatClampNeg)) 0 with
      | true =>
        refine xq_m 222 [0, 1, 2] [(0, .ref 39), (1, .int v1), (2, .int (x + Int32.ofInt 1))] [] (xh_ui (xh_ui h 41 ((v1 + x).toNatClampNeg) (vp_nar .boolean (Int32.ofInt 1))) 42 ((v1 + x).toNatClampNeg) (vp_nar .boolean (Int32.ofInt 1))) [false, true] 29 hq rfl ⟨c1, c2, trivial⟩ (fun _ => ?_)
        have hq : a_rq a_tb (xh_ui (xh_ui h 41 ((v1 + x).toNatClampNeg) (vp_nar .boolean (Int32.ofInt 1))) 42 ((v1 + x).toNatClampNeg) (vp_nar .boolean (Int32.ofInt 1))) := a_rq_ui (a_rq_ui hq)
        exact ih _ _ hq (GI_f gi (fx_ui (fx_ui (fx_0) rfl) rfl))
      | false =>
        cases c3 : xe_c .eq (xg 0 h.2.1 42 ((v1 + x).toNatClampNeg)) 0 with
        | true =>
          refine xq_m 222 [0, 1, 2] [(0, .ref 39), (1, .int v1), (2, .int (x + Int32.ofInt 1))] [] (xh_ui (xh_ui h 41 ((v1 + x).toNatClampNeg) (vp_nar .boolean (Int32.ofInt 0))) 42 ((v1 + x).toNatClampNeg) (vp_nar .boolean (Int32.ofInt 1))) [false, false, true] 35 hq rfl ⟨c1, c2, c3, trivial⟩ (fun _ => ?_)
          have hq : a_rq a_tb (xh_ui (xh_ui h 41 ((v1 + x).toNatClampNeg) (vp_nar .boolean (Int32.ofInt 0))) 42 ((v1 + x).toNatClampNeg) (vp_nar .boolean (Int32.ofInt 1))) := a_rq_ui (a_rq_ui hq)
          exact ih _ _ hq (GI_f gi (fx_ui (fx_ui (fx_0) rfl) rfl))
        | false =>
          refine xq_m 222 [0, 1, 2] [(0, .ref 39), (1, .int v1), (2, .int (x + Int32.ofInt 1))] [] (xh_ui (xh_ui h 41 ((v1 + x).toNatClampNeg) (vp_nar .boolean (Int32.ofInt 1))) 42 ((v1 + x).toNatClampNeg) (vp_nar .boolean (Int32.ofInt 1))) [false, false, false] 36 hq rfl ⟨c1, c2, c3, trivial⟩ (fun _ => ?_)
          have hq : a_rq a_tb (xh_ui (xh_ui h 41 ((v1 + x).toNatClampNeg) (vp_nar .boolean (Int32.ofInt 1))) 42 ((v1 + x).toNatClampNeg) (vp_nar .boolean (Int32.ofInt 1))) := a_rq_ui (a_rq_ui hq)
          exact ih _ _ hq (GI_f gi (fx_ui (fx_ui (fx_0) rfl) rfl))
set_option maxRecDepth 100000 in
set_option maxHeartbeats 4000000 in
theorem el_299 {p o aw : Nat} {fs : List Nat} {h0 : xh_H} {v1 : Int32} {Q : Option Value → xh_H → Prop} (K : ∀ (f : Nat) (x : Int32) (h : xh_H), a_rq a_tb h → GI h0 h T n mem nn NW p o fs aw → xq f xi_X10_end_ xmi_X10_end_ 326 [(0, .ref 39), (1, .int v1), (2, .int x)] [] h Q) : ∀ (f : Nat) (x : Int32) (h : xh_H), a_rq a_tb h → GI h0 h T n mem nn NW p o fs aw → xq f xi_X10_end_ xmi_X10_end_ 299 [(0, .ref 39), (1, .int v1), (2, .int x)] [] h Q := by
  intro f
  induction f with
  | zero => intros; exact xq_0
  | succ f ih =>
    intro x h hq gi
    cases c1 : xe_c .ge x 4096 with
    | true =>
      refine xq_m 326 [0, 1, 2] [(0, .ref 39), (1, .int v1), (2, .int x)] [] h [true] 5 hq rfl ⟨c1, trivial⟩ (fun hq => ?_)
      exact K f _ _ hq gi
    | false =>
      refine xq_m 299 [0, 1, 2] [(0, .ref 39), (1, .int v1), (2, .int (x + Int32.ofInt 1))] [] (xh_ui h 45 x.toNatClampNeg (vp_nar .boolean (xg 0 h.2.1 41 ((v1 + x).toNatClampNeg)))) [false] 17 hq rfl ⟨c1, trivial⟩ (fun _ => ?_)
      have hq : a_rq a_tb (xh_ui h 45 x.toNatClampNeg (vp_nar .boolean (xg 0 h.2.1 41 ((v1 + x).toNatClampNeg)))) := a_rq_ui hq
      exact ih _ _ hq (GI_f gi (fx_ui (fx_0) rfl))
/-- what is open: lists and brackets in the rule itself -/
def wfs : List Nat → Prop
  | [] => False
  | [t] => t = 0
  | t :: fs => (t = 1 ∨ t = 2) ∧ wfs fs
theorem wfs_0 {fs : List Nat} (h : wfs fs) (e : fs.head? = some 0) : fs = [0] := by
  match fs, h, e with
  | [t], h, e => have h : t = 0 := h; rw [h]
  | t :: u :: fs, h, e =>
    have h : (t = 1 ∨ t = 2) ∧ wfs (u :: fs) := h
    have e : t = 0 := Option.some.inj e
    omega
theorem wfs_t {fs : List Nat} (h : wfs fs) (e : fs.head? ≠ some 0) : wfs fs.tail := by
  match fs, h, e with
  | [t], h, e => have h : t = 0 := h; exact absurd (by rw [h]; rfl) e
  | t :: u :: fs, h, e => exact h.2
theorem wfs_c {fs : List Nat} {t : Nat} (h : wfs fs) (e : t = 1 ∨ t = 2) : wfs (t :: fs) := by
  match fs, h with
  | u :: fs, h => exact ⟨e, h⟩
theorem wfs_n {fs : List Nat} (h : wfs fs) : fs ≠ [] := by
  intro e
  rw [e] at h
  exact h
def rq0 (h : xh_H) (T : Nat → Nat) (n mem nn : Nat) (NW : Nat → Nat) (p o : Nat) : Prop := rtp h T n ∧ rtk h T n p ∧ xg 0 h.2.1 39 4 = nI mem ∧ mem ≤ 12 ∧ nms h nn NW ∧ xg 0 h.2.1 39 27 = nI o ∧ o ≤ 120 ∧ xg 0 h.2.1 39 13 = nI 0
def en_Q (h0 : xh_H) (T : Nat → Nat) (n mem nn : Nat) (NW : Nat → Nat) (p o : Nat) (r : aRs) (v : Option Value) (h' : xh_H) : Prop := fx rT gL h0 h' ∧ (∀ aw p' o' fs', r = .inl (aw, p', o', fs') → fs' ≠ [] → v = some (.int 1) ∧ rr h' T n mem nn NW p' o' fs' ∧ xg 0 h'.2.1 39 29 = nI aw ∧ xg 0 h'.2.1 39 30 = nI 0) ∧ (∀ aw p' o', r = .inl (aw, p', o', []) → v = some (.int 1) ∧ xg 0 h'.2.1 39 30 = nI 1 ∧ rq0 h' T n mem nn NW p o) ∧ ∀ k pl, r = .inr (k, pl) → v = some (.int 0) ∧ xg 0 h'.2.1 39 13 = nI k ∧ xg 0 h'.2.1 39 14 = nI pl
theorem en_l {h0 h' : xh_H} {r : aRs} {v : Option Value} {p o aw p' o' : Nat} {fs' : List Nat} (er : r = .inl (aw, p', o', fs')) (hne : fs' ≠ []) (g : fx rT gL h0 h') (hv : v = some (.int 1)) (hr : rr h' T n mem nn NW p' o' fs') (ha : xg 0 h'.2.1 39 29 = nI aw) (hd : xg 0 h'.2.1 39 30 = nI 0) : en_Q h0 T n mem nn NW p o r v h' := by
  subst er
  refine ⟨g, fun _ _ _ _ e _ => ?_, fun _ _ _ e => ?_, fun _ _ e => (by cases e)⟩
  · cases e
    exact ⟨hv, hr, ha, hd⟩
  · cases e
    exact absurd rfl hne
theorem en_d {h0 h' : xh_H} {r : aRs} {v : Option Value} {p o aw p' o' : Nat} (er : r = .inl (aw, p', o', [])) (g : fx rT gL h0 h') (hv : v = some (.int 1)) (hd : xg 0 h'.2.1 39 30 = nI 1) (hr : rq0 h' T n mem nn NW p o) : en_Q h0 T n mem nn NW p o r v h' := by
  subst er
  refine ⟨g, fun _ _ _ _ e z => ?_, fun _ _ _ _ => ⟨hv, hd, hr⟩, fun _ _ e => (by cases e)⟩
  cases e
  exact absurd rfl z
theorem en_r {h0 h' : xh_H} {r : aRs} {v : Option Value} {p o k pl : Nat} (er : r = .inr (k, pl)) (g : fx rT gL h0 h') (hv : v = some (.int 0)) (h1 : xg 0 h'.2.1 39 13 = nI k) (h2 : xg 0 h'.2.1 39 14 = nI pl) : en_Q h0 T n mem nn NW p o r v h' := by
  subst er
  refine ⟨g, fun _ _ _ _ e _ => (by cases e), fun _ _ _ e => (by cases e), fun _ _ e => ?_⟩
  cases e
  exact ⟨hv, h1, h2⟩
theorem frs_t {h : xh_H} {fs : List Nat} (g : frs h fs) : frs h fs.tail := by
  cases fs with
  | nil => trivial
  | cons t fs => exact g.2.2
theorem tl_len {fs : List Nat} : fs.tail.length = fs.length - 1 := List.length_tail
set_option maxRecDepth 100000 in
set_option maxHeartbeats 4000000 in
theorem en_138 {f p o ty : Nat} {fs : List Nat} {h0 h : xh_H} {v1 x : Int32} (hq : a_rq a_tb h) (gi : GI h0 h T n mem nn NW p o fs 0) (wf : wfs fs) (hty : fs.head? = some ty) (e47 : xg 0 h.2.1 47 (fs.length - 1) = nI ty) (ty2 : ty ≤ 2) (e2 : ty = 2) (b93 : tkk T n p = 93) : xq f xi_X10_end_ xmi_X10_end_ 138 [(0, .ref 39), (1, .int v1), (2, .int x)] [] h (en_Q h0 T n mem nn NW p o (en T n p o fs)) := by
  have rr0 := gi.2.1
  have g0 := gi.1
  have hT : ∀ k, k < n → T k < 256 := fun k hk' => (rr0.1.2.2 k hk').1
  have rt := rr0.2.1
  have rb := (rkk_k (T := T) (n := n) (p := p)).1
  have kb := tkk_lt (T := T) (n := n) (p := p) hT
  have o120 := rr0.2.2.2.2.2.2.1
  have f1 := rr0.2.2.2.2.2.2.2.2.1
  have n16 := rr0.2.2.2.2.1.2.1
  have f13 := rr0.2.2.2.2.2.2.2.2.2.1
  have n6 := rr0.1.2.1
  have hh : ∀ j, fs.head? = some j ↔ ty = j := fun j => by rw [hty]; exact ⟨fun e => Option.some.inj e, fun e => by rw [e]⟩
  have fl2 : ty ≠ 0 → 2 ≤ fs.length := fun e => by
    have w := wfs_t wf (fun e1 => e ((hh 0).mp e1))
    have w2 := wfs_n w
    cases hf : fs with
    | nil => rw [hf] at f1; exact absurd f1 (by decide)
    | cons a b =>
      cases b with
      | nil => rw [hf] at w2; exact absurd rfl w2
      | cons c d => simp only [List.length_cons]; omega
  refine xq_n 149 [0, 1, 2] [(0, .ref 39), (1, .int v1), (2, .int x)] [.ref 39] (xh_ui h 39 28 ((xg 0 h.2.1 39 28) - (Int32.ofInt 1))) [] 9 hq rfl trivial (fun _ => ?_)
  rw [show (xg 0 h.2.1 39 28) = (nI (fs.length - 1)) from rr0.2.2.2.2.2.2.2.1]
  rw [show ((nI (fs.length - 1)) - (Int32.ofInt 1)) = nI (fs.length - 1 - 1) from nI_sub (b := 1) (by omega)]
  have hq : a_rq a_tb (xh_ui h 39 28 (nI (fs.length - 1 - 1))) := a_rq_ui hq
  have nz1 : tkk T n p ≠ 0 := by omega
  have le1 := tke_le nz1
  refine xq_run hq rfl rfl (go_q hq (rtp_f (S := rT) (L := gL) rr0.1 (fx_ui (fx_0) rfl) rfl (fun _ => rfl)) ((gx_k (by decide)).trans (rt.2.2.2.2.2 (by omega))) le1) ?_
  rintro v1 h1 ⟨rfl, g1, t1⟩
  have hq := fx_q g1 hq
  have rb1 := (rkk_k (T := T) (n := n) (p := tke T n p)).1
  have kb1 := tkk_lt (T := T) (n := n) (p := tke T n p) hT
  refine xq_n 153 [] [] [.int (Int32.ofInt 1)] h1 [] 3 hq rfl trivial (fun hq => ?_)
  have er : en T n p o fs = .inl (0, tke T n p, o, fs.tail) := by
    unfold en
    rw [if_pos ((hh 2).mpr e2)]
    repeat (first | rw [if_pos (by omega)] | rw [if_neg (by omega)])
    try rfl
  exact xq_ret rfl rfl rfl (en_l er (wfs_n (wfs_t wf (fun e => by have := (hh 0).mp e; omega))) (fx_t (fx_ui (g0) rfl) (fx_w g1 (fun _ _ z => gS_r (rS_t z)) (fun _ _ z => z))) rfl ⟨rtp_f (S := rT) (L := gL) rr0.1 (fx_t (fx_ui (fx_0) rfl) (fx_w g1 (fun _ _ z => gS_r (rS_t z)) (fun _ _ z => z))) rfl (fun _ => rfl), t1, (fx_i g1 rfl).trans ((gx_k (by decide)).trans (rr0.2.2.1)), rr0.2.2.2.1, nms_f (S := rT) (L := gL) rr0.2.2.2.2.1 (fx_t (fx_ui (fx_0) rfl) (fx_w g1 (fun _ _ z => gS_r (rS_t z)) (fun _ _ z => z))) rfl (fun _ => rfl), (fx_i g1 rfl).trans ((gx_k (by decide)).trans (rr0.2.2.2.2.2.1)), rr0.2.2.2.2.2.2.1, ((fx_i g1 rfl).trans (gx_s)).trans (by rw [tl_len]), by rw [tl_len]; omega, by rw [tl_len]; omega, frs_c (fun k hk' => (fx_i g1 rfl).trans (gx_o (by decide))) (frs_t rr0.2.2.2.2.2.2.2.2.2.2.1), (fx_i g1 rfl).trans ((gx_k (by decide)).trans (rr0.2.2.2.2.2.2.2.2.2.2.2))⟩ ((fx_i g1 rfl).trans ((gx_k (by decide)).trans (gi.2.2.1))) ((fx_i g1 rfl).trans ((gx_k (by decide)).trans (gi.2.2.2))))
set_option maxRecDepth 100000 in
set_option maxHeartbeats 4000000 in
theorem en_66 {f p o ty : Nat} {fs : List Nat} {h0 h : xh_H} {v1 x : Int32} (hq : a_rq a_tb h) (gi : GI h0 h T n mem nn NW p o fs 0) (wf : wfs fs) (hty : fs.head? = some ty) (e47 : xg 0 h.2.1 47 (fs.length - 1) = nI ty) (ty2 : ty ≤ 2) (e2 : ty = 2) : xq f xi_X10_end_ xmi_X10_end_ 66 [(0, .ref 39), (1, .int v1), (2, .int x)] [] h (en_Q h0 T n mem nn NW p o (en T n p o fs)) := by
  have rr0 := gi.2.1
  have g0 := gi.1
  have hT : ∀ k, k < n → T k < 256 := fun k hk' => (rr0.1.2.2 k hk').1
  have rt := rr0.2.1
  have rb := (rkk_k (T := T) (n := n) (p := p)).1
  have kb := tkk_lt (T := T) (n := n) (p := p) hT
  have o120 := rr0.2.2.2.2.2.2.1
  have f1 := rr0.2.2.2.2.2.2.2.2.1
  have n16 := rr0.2.2.2.2.1.2.1
  have f13 := rr0.2.2.2.2.2.2.2.2.2.1
  have n6 := rr0.1.2.1
  have hh : ∀ j, fs.head? = some j ↔ ty = j := fun j => by rw [hty]; exact ⟨fun e => Option.some.inj e, fun e => by rw [e]⟩
  have fl2 : ty ≠ 0 → 2 ≤ fs.length := fun e => by
    have w := wfs_t wf (fun e1 => e ((hh 0).mp e1))
    have w2 := wfs_n w
    cases hf : fs with
    | nil => rw [hf] at f1; exact absurd f1 (by decide)
    | cons a b =>
      cases b with
      | nil => rw [hf] at w2; exact absurd rfl w2
      | cons c d => simp only [List.length_cons]; omega
  have e47t : ∀ {h' : xh_H}, GI h0 h' T n mem nn NW p o fs 0 → xg 0 h'.2.1 47 (fs.length - 1) = nI ty := fun {h'} g => by
    have w := g.2.1.2.2.2.2.2.2.2.2.2.2.1
    cases hf : fs with
    | nil => rw [hf] at hty; cases hty
    | cons a b =>
      rw [hf] at w hty
      have hty : a = ty := Option.some.inj hty
      rw [← hty]
      exact w.1
  refine xq_n 79 [0, 1, 2] [(0, .ref 39), (1, .int v1), (2, .int x)] [.int 93, .ref 39] (xh_ui h 48 ((xg 0 h.2.1 39 28).toNatClampNeg) (Int32.ofInt 1)) [] 10 hq rfl trivial (fun _ => ?_)
  rw [show (xg 0 h.2.1 39 28) = (nI (fs.length - 1)) from rr0.2.2.2.2.2.2.2.1]
  rw [show ((nI (fs.length - 1)).toNatClampNeg) = (fs.length - 1) from nI_clamp (by omega)]
  have hq : a_rq a_tb (xh_ui h 48 (fs.length - 1) (Int32.ofInt 1)) := a_rq_ui hq
  refine xq_run hq rfl rfl (rsg_q (c := 93) (by decide) (by decide) hT (rtk_ui (rt) rfl) hq) ?_
  rintro v1 h_v1 ⟨rfl, rfl⟩
  cases b2 : (decide (tkk T n p = 93)) with
  | true =>
    have db2 := of_decide_eq_true b2
    refine xq_n 94 [0, 1, 2] [(0, .ref 39), (1, .int v1), (2, .int (Int32.ofInt 0))] [] (xh_ui h 48 (fs.length - 1) (Int32.ofInt 1)) [true] 5 hq rfl ⟨rfl, trivial⟩ (fun hq => ?_)
    exact el_94 (fun f x h hq gi => en_138 hq gi wf hty (e47t gi) ty2 e2 (by omega)) f _ _ hq (GI_f gi (fx_ui (fx_0) rfl))
  | false =>
    have db2 := of_decide_eq_false b2
    refine xq_n 91 [] [] [.int (Int32.ofInt 1)] (xh_ui (xh_ui h 48 (fs.length - 1) (Int32.ofInt 1)) 39 29 (Int32.ofInt 1)) [false] 7 hq rfl ⟨rfl, trivial⟩ (fun _ => ?_)
    have hq : a_rq a_tb (xh_ui (xh_ui h 48 (fs.length - 1) (Int32.ofInt 1)) 39 29 (Int32.ofInt 1)) := a_rq_ui hq
    have er : en T n p o fs = .inl (1, p, o, fs) := by
      unfold en
      rw [if_pos ((hh 2).mpr e2)]
      repeat (first | rw [if_pos (by omega)] | rw [if_neg (by omega)] | rw [if_pos b2] | rw [if_neg (by rw [b2]; decide)])
      try rfl
    exact xq_ret rfl rfl rfl (en_l er (wfs_n wf) (fx_ui (fx_ui (g0) rfl) rfl) rfl ⟨rtp_f (S := rT) (L := gL) rr0.1 (fx_ui (fx_ui (fx_0) rfl) rfl) rfl (fun _ => rfl), rtk_ui (rtk_ui (rt) rfl) rfl, (gx_k (by decide)).trans ((gx_o (by decide)).trans (rr0.2.2.1)), rr0.2.2.2.1, nms_f (S := rT) (L := gL) rr0.2.2.2.2.1 (fx_ui (fx_ui (fx_0) rfl) rfl) rfl (fun _ => rfl), (gx_k (by decide)).trans ((gx_o (by decide)).trans (rr0.2.2.2.2.2.1)), rr0.2.2.2.2.2.2.1, (gx_k (by decide)).trans ((gx_o (by decide)).trans (rr0.2.2.2.2.2.2.2.1)), rr0.2.2.2.2.2.2.2.2.1, rr0.2.2.2.2.2.2.2.2.2.1, frs_c (fun k hk' => (gx_o (by decide)).trans (gx_o (by decide))) rr0.2.2.2.2.2.2.2.2.2.2.1, (gx_k (by decide)).trans ((gx_o (by decide)).trans (rr0.2.2.2.2.2.2.2.2.2.2.2))⟩ (gx_s) ((gx_k (by decide)).trans ((gx_o (by decide)).trans (gi.2.2.2))))
set_option maxRecDepth 100000 in
set_option maxHeartbeats 4000000 in
theorem en_326 {f p o ty : Nat} {fs : List Nat} {h0 h : xh_H} {v1 x : Int32} (hq : a_rq a_tb h) (gi : GI h0 h T n mem nn NW p o fs 0) (wf : wfs fs) (hty : fs.head? = some ty) (e47 : xg 0 h.2.1 47 (fs.length - 1) = nI ty) (ty2 : ty ≤ 2) (e2 : ty ≠ 2) (a2 : ky T n p 2 = false) (a3 : ky T n p 3 = false) : xq f xi_X10_end_ xmi_X10_end_ 326 [(0, .ref 39), (1, .int v1), (2, .int x)] [] h (en_Q h0 T n mem nn NW p o (en T n p o fs)) := by
  have rr0 := gi.2.1
  have g0 := gi.1
  have hT : ∀ k, k < n → T k < 256 := fun k hk' => (rr0.1.2.2 k hk').1
  have rt := rr0.2.1
  have rb := (rkk_k (T := T) (n := n) (p := p)).1
  have kb := tkk_lt (T := T) (n := n) (p := p) hT
  have o120 := rr0.2.2.2.2.2.2.1
  have f1 := rr0.2.2.2.2.2.2.2.2.1
  have n16 := rr0.2.2.2.2.1.2.1
  have f13 := rr0.2.2.2.2.2.2.2.2.2.1
  have n6 := rr0.1.2.1
  have hh : ∀ j, fs.head? = some j ↔ ty = j := fun j => by rw [hty]; exact ⟨fun e => Option.some.inj e, fun e => by rw [e]⟩
  have fl2 : ty ≠ 0 → 2 ≤ fs.length := fun e => by
    have w := wfs_t wf (fun e1 => e ((hh 0).mp e1))
    have w2 := wfs_n w
    cases hf : fs with
    | nil => rw [hf] at f1; exact absurd f1 (by decide)
    | cons a b =>
      cases b with
      | nil => rw [hf] at w2; exact absurd rfl w2
      | cons c d => simp only [List.length_cons]; omega
  cases c1 : xe_c .ne (nI ty) 0 with
  | true =>
    have z1 : ty ≠ 0 := nq_net (a := ty) (b := 0) (by omega) (by omega) c1
    refine xq_n 369 [0, 1, 2] [(0, .ref 39), (1, .int v1), (2, .int x)] [.int 41, .ref 39] h [true] 10 hq rfl ⟨(show xe_c .ne (xg 0 h.2.1 47 ((xg 0 h.2.1 39 28).toNatClampNeg)) 0 = true by rw [show (xg 0 h.2.1 47 ((xg 0 h.2.1 39 28).toNatClampNeg)) = (nI ty) from (by rw [show (xg 0 h.2.1 39 28) = (nI (fs.length - 1)) from rr0.2.2.2.2.2.2.2.1, show ((nI (fs.length - 1)).toNatClampNeg) = (fs.length - 1) from nI_clamp (by omega)]; exact e47)]; exact c1), trivial⟩ (fun hq => ?_)
    refine xq_run hq rfl rfl (rsg_q (c := 41) (by decide) (by decide) hT (rt) hq) ?_
    rintro v2 h_v2 ⟨rfl, rfl⟩
    cases b3 : (decide (tkk T n p = 41)) with
    | true =>
      have db3 := of_decide_eq_true b3
      refine xq_n 392 [0, 1, 2] [(0, .ref 39), (1, .int v1), (2, .int x)] [.ref 39] (xh_ui h 39 28 ((xg 0 h.2.1 39 28) - (Int32.ofInt 1))) [true] 10 hq rfl ⟨rfl, trivial⟩ (fun _ => ?_)
      rw [show (xg 0 h.2.1 39 28) = (nI (fs.length - 1)) from rr0.2.2.2.2.2.2.2.1]
      rw [show ((nI (fs.length - 1)) - (Int32.ofInt 1)) = nI (fs.length - 1 - 1) from nI_sub (b := 1) (by omega)]
      have hq : a_rq a_tb (xh_ui h 39 28 (nI (fs.length - 1 - 1))) := a_rq_ui hq
      have nz4 : tkk T n p ≠ 0 := by omega
      have le4 := tke_le nz4
      refine xq_run hq rfl rfl (go_q hq (rtp_f (S := rT) (L := gL) rr0.1 (fx_ui (fx_0) rfl) rfl (fun _ => rfl)) ((gx_k (by decide)).trans (rt.2.2.2.2.2 (by omega))) le4) ?_
      rintro v4 h4 ⟨rfl, g4, t4⟩
      have hq := fx_q g4 hq
      have rb4 := (rkk_k (T := T) (n := n) (p := tke T n p)).1
      have kb4 := tkk_lt (T := T) (n := n) (p := tke T n p) hT
      refine xq_n 396 [] [] [.int (Int32.ofInt 1)] h4 [] 3 hq rfl trivial (fun hq => ?_)
      have er : en T n p o fs = .inl (0, tke T n p, o, fs.tail) := by
        unfold en
        rw [if_neg (fun e => e2 ((hh 2).mp e))]
        rw [if_neg (by rw [a2]; decide), if_neg (by rw [a3]; decide)]
        first | rw [if_pos ((hh 0).mpr (by omega))] | rw [if_neg (fun e => by have := (hh 0).mp e; omega)]
        repeat (first | rw [if_pos (by omega)] | rw [if_neg (by omega)] | rw [if_pos b3] | rw [if_neg (by rw [b3]; decide)])
        try rfl
      exact xq_ret rfl rfl rfl (en_l er (wfs_n (wfs_t wf (fun e => by have := (hh 0).mp e; omega))) (fx_t (fx_ui (g0) rfl) (fx_w g4 (fun _ _ z => gS_r (rS_t z)) (fun _ _ z => z))) rfl ⟨rtp_f (S := rT) (L := gL) rr0.1 (fx_t (fx_ui (fx_0) rfl) (fx_w g4 (fun _ _ z => gS_r (rS_t z)) (fun _ _ z => z))) rfl (fun _ => rfl), t4, (fx_i g4 rfl).trans ((gx_k (by decide)).trans (rr0.2.2.1)), rr0.2.2.2.1, nms_f (S := rT) (L := gL) rr0.2.2.2.2.1 (fx_t (fx_ui (fx_0) rfl) (fx_w g4 (fun _ _ z => gS_r (rS_t z)) (fun _ _ z => z))) rfl (fun _ => rfl), (fx_i g4 rfl).trans ((gx_k (by decide)).trans (rr0.2.2.2.2.2.1)), rr0.2.2.2.2.2.2.1, ((fx_i g4 rfl).trans (gx_s)).trans (by rw [tl_len]), by rw [tl_len]; omega, by rw [tl_len]; omega, frs_c (fun k hk' => (fx_i g4 rfl).trans (gx_o (by decide))) (frs_t rr0.2.2.2.2.2.2.2.2.2.2.1), (fx_i g4 rfl).trans ((gx_k (by decide)).trans (rr0.2.2.2.2.2.2.2.2.2.2.2))⟩ ((fx_i g4 rfl).trans ((gx_k (by decide)).trans (gi.2.2.1))) ((fx_i g4 rfl).trans ((gx_k (by decide)).trans (gi.2.2.2))))
    | false =>
      have db3 := of_decide_eq_false b3
      refine xq_n 377 [0, 1, 2] [(0, .ref 39), (1, .int v1), (2, .int x)] [.int (Int32.ofInt 1), .ref 39] h [false] 5 hq rfl ⟨rfl, trivial⟩ (fun hq => ?_)
      refine xq_run hq rfl rfl (bad_q (k := 1) hT (rt) hq) ?_
      rintro v5 h5 ⟨rfl, g5, f5, l5⟩
      have hq := fx_q g5 hq
      rw [show (if rkk T n p = 1 then 1 else 1) = 1 by split <;> rfl] at f5
      have er : en T n p o fs = .inr (1, tks T n p) := by
        unfold en
        rw [if_neg (fun e => e2 ((hh 2).mp e))]
        rw [if_neg (by rw [a2]; decide), if_neg (by rw [a3]; decide)]
        first | rw [if_pos ((hh 0).mpr (by omega))] | rw [if_neg (fun e => by have := (hh 0).mp e; omega)]
        repeat (first | rw [if_pos (by omega)] | rw [if_neg (by omega)] | rw [if_pos b3] | rw [if_neg (by rw [b3]; decide)])
        try rfl
      exact xq_ret rfl rfl rfl (en_r er (fx_t (g0) (fx_w g5 (fun _ _ z => bS_r (rS_t z)) (fun _ _ _ => rfl))) rfl (f5) (l5))
  | false =>
    have z1 : ty = 0 := nq_nef (a := ty) (b := 0) (by omega) (by omega) c1
    refine xq_n 346 [0, 1, 2] [(0, .ref 39), (1, .int v1), (2, .int x)] [.int 59, .ref 39] (xh_ui h 39 30 (Int32.ofInt 1)) [false] 13 hq rfl ⟨(show xe_c .ne (xg 0 h.2.1 47 ((xg 0 h.2.1 39 28).toNatClampNeg)) 0 = false by rw [show (xg 0 h.2.1 47 ((xg 0 h.2.1 39 28).toNatClampNeg)) = (nI ty) from (by rw [show (xg 0 h.2.1 39 28) = (nI (fs.length - 1)) from rr0.2.2.2.2.2.2.2.1, show ((nI (fs.length - 1)).toNatClampNeg) = (fs.length - 1) from nI_clamp (by omega)]; exact e47)]; exact c1), trivial⟩ (fun _ => ?_)
    have hq : a_rq a_tb (xh_ui h 39 30 (Int32.ofInt 1)) := a_rq_ui hq
    refine xq_run hq rfl rfl (rsg_q (c := 59) (by decide) (by decide) hT (rtk_ui (rt) rfl) hq) ?_
    rintro v6 h_v6 ⟨rfl, rfl⟩
    cases b7 : (decide (tkk T n p = 59)) with
    | true =>
      have db7 := of_decide_eq_true b7
      refine xq_n 365 [] [] [.int (Int32.ofInt 1)] (xh_ui h 39 30 (Int32.ofInt 1)) [true] 5 hq rfl ⟨rfl, trivial⟩ (fun hq => ?_)
      have er : en T n p o fs = .inl (0, tke T n p, o, []) := by
        unfold en
        rw [if_neg (fun e => e2 ((hh 2).mp e))]
        rw [if_neg (by rw [a2]; decide), if_neg (by rw [a3]; decide)]
        first | rw [if_pos ((hh 0).mpr (by omega))] | rw [if_neg (fun e => by have := (hh 0).mp e; omega)]
        repeat (first | rw [if_pos (by omega)] | rw [if_neg (by omega)] | rw [if_pos b7] | rw [if_neg (by rw [b7]; decide)])
        try rfl
      exact xq_ret rfl rfl rfl (en_d er (fx_ui (g0) rfl) rfl (gx_s) ⟨rtp_f (S := rT) (L := gL) rr0.1 (fx_ui (fx_0) rfl) rfl (fun _ => rfl), rtk_ui (rt) rfl, (gx_k (by decide)).trans (rr0.2.2.1), rr0.2.2.2.1, nms_f (S := rT) (L := gL) rr0.2.2.2.2.1 (fx_ui (fx_0) rfl) rfl (fun _ => rfl), (gx_k (by decide)).trans (rr0.2.2.2.2.2.1), rr0.2.2.2.2.2.2.1, (gx_k (by decide)).trans (rr0.2.2.2.2.2.2.2.2.2.2.2)⟩)
    | false =>
      have db7 := of_decide_eq_false b7
      refine xq_n 354 [0, 1, 2] [(0, .ref 39), (1, .int v1), (2, .int x)] [.int (Int32.ofInt 1), .ref 39] (xh_ui h 39 30 (Int32.ofInt 1)) [false] 5 hq rfl ⟨rfl, trivial⟩ (fun hq => ?_)
      refine xq_run hq rfl rfl (bad_q (k := 1) hT (rtk_ui (rt) rfl) hq) ?_
      rintro v8 h8 ⟨rfl, g8, f8, l8⟩
      have hq := fx_q g8 hq
      rw [show (if rkk T n p = 1 then 1 else 1) = 1 by split <;> rfl] at f8
      refine xq_n 365 [] [] [.int (Int32.ofInt 0)] h8 [true] 4 hq rfl ⟨(by decide), trivial⟩ (fun hq => ?_)
      have er : en T n p o fs = .inr (1, tks T n p) := by
        unfold en
        rw [if_neg (fun e => e2 ((hh 2).mp e))]
        rw [if_neg (by rw [a2]; decide), if_neg (by rw [a3]; decide)]
        first | rw [if_pos ((hh 0).mpr (by omega))] | rw [if_neg (fun e => by have := (hh 0).mp e; omega)]
        repeat (first | rw [if_pos (by omega)] | rw [if_neg (by omega)] | rw [if_pos b7] | rw [if_neg (by rw [b7]; decide)])
        try rfl
      exact xq_ret rfl rfl rfl (en_r er (fx_t (fx_ui (g0) rfl) (fx_w g8 (fun _ _ z => bS_r (rS_t z)) (fun _ _ _ => rfl))) rfl (f8) (l8))
set_option maxRecDepth 100000 in
set_option maxHeartbeats 4000000 in
theorem en_279 {f p o ty : Nat} {fs : List Nat} {h0 h : xh_H} {v1 x : Int32} (hq : a_rq a_tb h) (gi : GI h0 h T n mem nn NW p o fs 0) (wf : wfs fs) (hty : fs.head? = some ty) (e47 : xg 0 h.2.1 47 (fs.length - 1) = nI ty) (ty2 : ty ≤ 2) (e2 : ty ≠ 2) (a2 : ky T n p 2 = false) : xq f xi_X10_end_ xmi_X10_end_ 279 [(0, .ref 39), (1, .int v1), (2, .int x)] [] h (en_Q h0 T n mem nn NW p o (en T n p o fs)) := by
  have rr0 := gi.2.1
  have g0 := gi.1
  have hT : ∀ k, k < n → T k < 256 := fun k hk' => (rr0.1.2.2 k hk').1
  have rt := rr0.2.1
  have rb := (rkk_k (T := T) (n := n) (p := p)).1
  have kb := tkk_lt (T := T) (n := n) (p := p) hT
  have o120 := rr0.2.2.2.2.2.2.1
  have f1 := rr0.2.2.2.2.2.2.2.2.1
  have n16 := rr0.2.2.2.2.1.2.1
  have f13 := rr0.2.2.2.2.2.2.2.2.2.1
  have n6 := rr0.1.2.1
  have hh : ∀ j, fs.head? = some j ↔ ty = j := fun j => by rw [hty]; exact ⟨fun e => Option.some.inj e, fun e => by rw [e]⟩
  have fl2 : ty ≠ 0 → 2 ≤ fs.length := fun e => by
    have w := wfs_t wf (fun e1 => e ((hh 0).mp e1))
    have w2 := wfs_n w
    cases hf : fs with
    | nil => rw [hf] at f1; exact absurd f1 (by decide)
    | cons a b =>
      cases b with
      | nil => rw [hf] at w2; exact absurd rfl w2
      | cons c d => simp only [List.length_cons]; omega
  have e47t : ∀ {h' : xh_H}, GI h0 h' T n mem nn NW p o fs 0 → xg 0 h'.2.1 47 (fs.length - 1) = nI ty := fun {h'} g => by
    have w := g.2.1.2.2.2.2.2.2.2.2.2.2.1
    cases hf : fs with
    | nil => rw [hf] at hty; cases hty
    | cons a b =>
      rw [hf] at w hty
      have hty : a = ty := Option.some.inj hty
      rw [← hty]
      exact w.1
  refine xq_n 280 [0, 1, 2] [(0, .ref 39), (1, .int v1), (2, .int x)] [.ref 39] h [] 3 hq rfl trivial (fun hq => ?_)
  refine xq_run hq rfl rfl (rw3_q hT (rt) hq) ?_
  rintro v1 h_v1 ⟨rfl, rfl⟩
  cases b2 : (ky T n p 3) with
  | true =>
    have db2 := of_decide_eq_true b2
    refine xq_n 292 [0, 1, 2] [(0, .ref 39), (1, .int v1), (2, .int x)] [.ref 39] (xh_ui h 39 29 (Int32.ofInt 1)) [false] 7 hq rfl ⟨rfl, trivial⟩ (fun _ => ?_)
    have hq : a_rq a_tb (xh_ui h 39 29 (Int32.ofInt 1)) := a_rq_ui hq
    have nz3 : tkk T n p ≠ 0 := by omega
    have le3 := tke_le nz3
    refine xq_run hq rfl rfl (go_q hq (rtp_f (S := rT) (L := gL) rr0.1 (fx_ui (fx_0) rfl) rfl (fun _ => rfl)) ((gx_k (by decide)).trans (rt.2.2.2.2.2 (by omega))) le3) ?_
    rintro v3 h3 ⟨rfl, g3, t3⟩
    have hq := fx_q g3 hq
    have rb3 := (rkk_k (T := T) (n := n) (p := tke T n p)).1
    have kb3 := tkk_lt (T := T) (n := n) (p := tke T n p) hT
    refine xq_n 296 [] [] [.int (Int32.ofInt 1)] h3 [] 3 hq rfl trivial (fun hq => ?_)
    have er : en T n p o fs = .inl (1, tke T n p, o, fs) := by
      unfold en
      rw [if_neg (fun e => e2 ((hh 2).mp e))]
      rw [if_neg (by rw [a2]; decide)]
      repeat (first | rw [if_pos (by omega)] | rw [if_neg (by omega)] | rw [if_pos b2] | rw [if_neg (by rw [b2]; decide)])
      try rfl
    exact xq_ret rfl rfl rfl (en_l er (wfs_n wf) (fx_t (fx_ui (g0) rfl) (fx_w g3 (fun _ _ z => gS_r (rS_t z)) (fun _ _ z => z))) rfl ⟨rtp_f (S := rT) (L := gL) rr0.1 (fx_t (fx_ui (fx_0) rfl) (fx_w g3 (fun _ _ z => gS_r (rS_t z)) (fun _ _ z => z))) rfl (fun _ => rfl), t3, (fx_i g3 rfl).trans ((gx_k (by decide)).trans (rr0.2.2.1)), rr0.2.2.2.1, nms_f (S := rT) (L := gL) rr0.2.2.2.2.1 (fx_t (fx_ui (fx_0) rfl) (fx_w g3 (fun _ _ z => gS_r (rS_t z)) (fun _ _ z => z))) rfl (fun _ => rfl), (fx_i g3 rfl).trans ((gx_k (by decide)).trans (rr0.2.2.2.2.2.1)), rr0.2.2.2.2.2.2.1, (fx_i g3 rfl).trans ((gx_k (by decide)).trans (rr0.2.2.2.2.2.2.2.1)), rr0.2.2.2.2.2.2.2.2.1, rr0.2.2.2.2.2.2.2.2.2.1, frs_c (fun k hk' => (fx_i g3 rfl).trans (gx_o (by decide))) rr0.2.2.2.2.2.2.2.2.2.2.1, (fx_i g3 rfl).trans ((gx_k (by decide)).trans (rr0.2.2.2.2.2.2.2.2.2.2.2))⟩ ((fx_i g3 rfl).trans (gx_s)) ((fx_i g3 rfl).trans ((gx_k (by decide)).trans (gi.2.2.2))))
  | false =>
    have db2 := of_decide_eq_false b2
    refine xq_n 299 [0, 1, 2] [(0, .ref 39), (1, .int v1), (2, .int (Int32.ofInt 0))] [] h [true] 5 hq rfl ⟨rfl, trivial⟩ (fun hq => ?_)
    exact el_299 (fun f x h hq gi => en_326 hq gi wf hty (e47t gi) ty2 e2 a2 b2) f _ _ hq (gi)
set_option maxRecDepth 100000 in
set_option maxHeartbeats 4000000 in
theorem en_202 {f p o ty : Nat} {fs : List Nat} {h0 h : xh_H} {v1 x : Int32} (hq : a_rq a_tb h) (gi : GI h0 h T n mem nn NW p o fs 0) (wf : wfs fs) (hty : fs.head? = some ty) (e47 : xg 0 h.2.1 47 (fs.length - 1) = nI ty) (ty2 : ty ≤ 2) (e2 : ty ≠ 2) : xq f xi_X10_end_ xmi_X10_end_ 202 [(0, .ref 39), (1, .int v1), (2, .int x)] [] h (en_Q h0 T n mem nn NW p o (en T n p o fs)) := by
  have rr0 := gi.2.1
  have g0 := gi.1
  have hT : ∀ k, k < n → T k < 256 := fun k hk' => (rr0.1.2.2 k hk').1
  have rt := rr0.2.1
  have rb := (rkk_k (T := T) (n := n) (p := p)).1
  have kb := tkk_lt (T := T) (n := n) (p := p) hT
  have o120 := rr0.2.2.2.2.2.2.1
  have f1 := rr0.2.2.2.2.2.2.2.2.1
  have n16 := rr0.2.2.2.2.1.2.1
  have f13 := rr0.2.2.2.2.2.2.2.2.2.1
  have n6 := rr0.1.2.1
  have hh : ∀ j, fs.head? = some j ↔ ty = j := fun j => by rw [hty]; exact ⟨fun e => Option.some.inj e, fun e => by rw [e]⟩
  have fl2 : ty ≠ 0 → 2 ≤ fs.length := fun e => by
    have w := wfs_t wf (fun e1 => e ((hh 0).mp e1))
    have w2 := wfs_n w
    cases hf : fs with
    | nil => rw [hf] at f1; exact absurd f1 (by decide)
    | cons a b =>
      cases b with
      | nil => rw [hf] at w2; exact absurd rfl w2
      | cons c d => simp only [List.length_cons]; omega
  have e47t : ∀ {h' : xh_H}, GI h0 h' T n mem nn NW p o fs 0 → xg 0 h'.2.1 47 (fs.length - 1) = nI ty := fun {h'} g => by
    have w := g.2.1.2.2.2.2.2.2.2.2.2.2.1
    cases hf : fs with
    | nil => rw [hf] at hty; cases hty
    | cons a b =>
      rw [hf] at w hty
      have hty : a = ty := Option.some.inj hty
      rw [← hty]
      exact w.1
  refine xq_n 203 [0, 1, 2] [(0, .ref 39), (1, .int v1), (2, .int x)] [.ref 39] h [] 3 hq rfl trivial (fun hq => ?_)
  refine xq_run hq rfl rfl (rw2_q hT (rt) hq) ?_
  rintro v1 h_v1 ⟨rfl, rfl⟩
  cases b2 : (ky T n p 2) with
  | true =>
    have db2 := of_decide_eq_true b2
    refine xq_n 215 [0, 1, 2] [(0, .ref 39), (1, .int v1), (2, .int x)] [.ref 39] (xh_ui h 39 29 (Int32.ofInt 1)) [false] 7 hq rfl ⟨rfl, trivial⟩ (fun _ => ?_)
    have hq : a_rq a_tb (xh_ui h 39 29 (Int32.ofInt 1)) := a_rq_ui hq
    have nz3 : tkk T n p ≠ 0 := by omega
    have le3 := tke_le nz3
    refine xq_run hq rfl rfl (go_q hq (rtp_f (S := rT) (L := gL) rr0.1 (fx_ui (fx_0) rfl) rfl (fun _ => rfl)) ((gx_k (by decide)).trans (rt.2.2.2.2.2 (by omega))) le3) ?_
    rintro v3 h3 ⟨rfl, g3, t3⟩
    have hq := fx_q g3 hq
    have rb3 := (rkk_k (T := T) (n := n) (p := tke T n p)).1
    have kb3 := tkk_lt (T := T) (n := n) (p := tke T n p) hT
    refine xq_n 219 [] [] [.int (Int32.ofInt 1)] h3 [] 3 hq rfl trivial (fun hq => ?_)
    have er : en T n p o fs = .inl (1, tke T n p, o, fs) := by
      unfold en
      rw [if_neg (fun e => e2 ((hh 2).mp e))]
      repeat (first | rw [if_pos (by omega)] | rw [if_neg (by omega)] | rw [if_pos b2] | rw [if_neg (by rw [b2]; decide)])
      try rfl
    exact xq_ret rfl rfl rfl (en_l er (wfs_n wf) (fx_t (fx_ui (g0) rfl) (fx_w g3 (fun _ _ z => gS_r (rS_t z)) (fun _ _ z => z))) rfl ⟨rtp_f (S := rT) (L := gL) rr0.1 (fx_t (fx_ui (fx_0) rfl) (fx_w g3 (fun _ _ z => gS_r (rS_t z)) (fun _ _ z => z))) rfl (fun _ => rfl), t3, (fx_i g3 rfl).trans ((gx_k (by decide)).trans (rr0.2.2.1)), rr0.2.2.2.1, nms_f (S := rT) (L := gL) rr0.2.2.2.2.1 (fx_t (fx_ui (fx_0) rfl) (fx_w g3 (fun _ _ z => gS_r (rS_t z)) (fun _ _ z => z))) rfl (fun _ => rfl), (fx_i g3 rfl).trans ((gx_k (by decide)).trans (rr0.2.2.2.2.2.1)), rr0.2.2.2.2.2.2.1, (fx_i g3 rfl).trans ((gx_k (by decide)).trans (rr0.2.2.2.2.2.2.2.1)), rr0.2.2.2.2.2.2.2.2.1, rr0.2.2.2.2.2.2.2.2.2.1, frs_c (fun k hk' => (fx_i g3 rfl).trans (gx_o (by decide))) rr0.2.2.2.2.2.2.2.2.2.2.1, (fx_i g3 rfl).trans ((gx_k (by decide)).trans (rr0.2.2.2.2.2.2.2.2.2.2.2))⟩ ((fx_i g3 rfl).trans (gx_s)) ((fx_i g3 rfl).trans ((gx_k (by decide)).trans (gi.2.2.2))))
  | false =>
    have db2 := of_decide_eq_false b2
    refine xq_n 222 [0, 1, 2] [(0, .ref 39), (1, .int v1), (2, .int (Int32.ofInt 0))] [] h [true] 5 hq rfl ⟨rfl, trivial⟩ (fun hq => ?_)
    exact el_222 (fun f x h hq gi => en_279 hq gi wf hty (e47t gi) ty2 e2 b2) f _ _ hq (gi)
set_option maxRecDepth 100000 in
set_option maxHeartbeats 4000000 in
/-- X10.end -/
theorem en_q {f p o ty : Nat} {fs : List Nat} {h0 h : xh_H} (hq : a_rq a_tb h) (gi : GI h0 h T n mem nn NW p o fs 0) (wf : wfs fs) (hty : fs.head? = some ty) (e47 : xg 0 h.2.1 47 (fs.length - 1) = nI ty) (ty2 : ty ≤ 2) : xq f xi_X10_end_ xmi_X10_end_ 0 [(0, .ref 39)] [] h (en_Q h0 T n mem nn NW p o (en T n p o fs)) := by
  have rr0 := gi.2.1
  have g0 := gi.1
  have hT : ∀ k, k < n → T k < 256 := fun k hk' => (rr0.1.2.2 k hk').1
  have rt := rr0.2.1
  have rb := (rkk_k (T := T) (n := n) (p := p)).1
  have kb := tkk_lt (T := T) (n := n) (p := p) hT
  have o120 := rr0.2.2.2.2.2.2.1
  have f1 := rr0.2.2.2.2.2.2.2.2.1
  have n16 := rr0.2.2.2.2.1.2.1
  have f13 := rr0.2.2.2.2.2.2.2.2.2.1
  have n6 := rr0.1.2.1
  have e47t : ∀ {h' : xh_H}, GI h0 h' T n mem nn NW p o fs 0 → xg 0 h'.2.1 47 (fs.length - 1) = nI ty := fun {h'} g => by
    have w := g.2.1.2.2.2.2.2.2.2.2.2.2.1
    cases hf : fs with
    | nil => rw [hf] at hty; cases hty
    | cons a b =>
      rw [hf] at w hty
      have hty : a = ty := Option.some.inj hty
      rw [← hty]
      exact w.1
  cases c1 : xe_c .ne (nI ty) (Int32.ofInt 2) with
  | true =>
    have z1 : ty ≠ 2 := nq_net (a := ty) (b := 2) (by omega) (by omega) c1
    refine xq_n 156 [0, 1, 2] [(0, .ref 39), (1, .int (4096 * (xg 0 h.2.1 39 28))), (2, .int (Int32.ofInt 0))] [] h [true] 16 hq rfl ⟨(show xe_c .ne (xg 0 h.2.1 47 ((xg 0 h.2.1 39 28).toNatClampNeg)) (Int32.ofInt 2) = true by rw [show (xg 0 h.2.1 47 ((xg 0 h.2.1 39 28).toNatClampNeg)) = (nI ty) from (by rw [show (xg 0 h.2.1 39 28) = (nI (fs.length - 1)) from rr0.2.2.2.2.2.2.2.1, show ((nI (fs.length - 1)).toNatClampNeg) = (fs.length - 1) from nI_clamp (by omega)]; exact e47)]; exact c1), trivial⟩ (fun hq => ?_)
    rw [show (xg 0 h.2.1 39 28) = (nI (fs.length - 1)) from rr0.2.2.2.2.2.2.2.1]
    exact el_156 (fun f x h hq gi => en_202 hq gi wf hty (e47t gi) ty2 (by omega)) f _ _ hq gi
  | false =>
    have z1 : ty = 2 := nq_nef (a := ty) (b := 2) (by omega) (by omega) c1
    refine xq_n 24 [0, 1, 2] [(0, .ref 39), (1, .int (4096 * (xg 0 h.2.1 39 28))), (2, .int (Int32.ofInt 0))] [] h [false] 16 hq rfl ⟨(show xe_c .ne (xg 0 h.2.1 47 ((xg 0 h.2.1 39 28).toNatClampNeg)) (Int32.ofInt 2) = false by rw [show (xg 0 h.2.1 47 ((xg 0 h.2.1 39 28).toNatClampNeg)) = (nI ty) from (by rw [show (xg 0 h.2.1 39 28) = (nI (fs.length - 1)) from rr0.2.2.2.2.2.2.2.1, show ((nI (fs.length - 1)).toNatClampNeg) = (fs.length - 1) from nI_clamp (by omega)]; exact e47)]; exact c1), trivial⟩ (fun hq => ?_)
    rw [show (xg 0 h.2.1 39 28) = (nI (fs.length - 1)) from rr0.2.2.2.2.2.2.2.1]
    exact el_24 (fun f x h hq gi => en_66 hq gi wf hty (e47t gi) ty2 (by omega)) f _ _ hq gi
end XRH
end
section
section XRI
theorem a_rq_h0 {S L : Nat → Nat → Bool} {h0 h : xh_H} {tb : aT} (g : fx S L h0 h) (hq : a_rq tb h) : a_rq tb h0 := by
  refine ⟨by rw [← g.1]; exact hq.1, fun c s hs => by rw [← g.1]; exact hq.2.1 c s hs, fun c k ci t h1 h2 => ?_⟩
  rw [← g.2.1]
  exact hq.2.2 c k ci t h1 h2
theorem en_e {T : Nat → Nat} {n p o aw p' o' : Nat} {fs : List Nat} (wf : wfs fs) (e : en T n p o fs = .inl (aw, p', o', [])) : p' = tke T n p ∧ o' = o ∧ tkk T n p = 59 := by
  unfold en at e
  split at e
  · rename_i h2
    split at e
    · have e1 := Sum.inl.inj e
      have e2 : fs.tail = [] := congrArg (fun s => s.2.2.2) e1
      exact absurd e2 (wfs_n (wfs_t wf (by rw [h2]; intro z; cases z)))
    · have e1 := Sum.inl.inj e
      exact absurd (congrArg (fun s => s.2.2.2) e1) (wfs_n wf)
  · split at e
    · have e1 := Sum.inl.inj e
      exact absurd (congrArg (fun s => s.2.2.2) e1) (wfs_n wf)
    · split at e
      · have e1 := Sum.inl.inj e
        exact absurd (congrArg (fun s => s.2.2.2) e1) (wfs_n wf)
      · split at e
        · split at e
          · rename_i h59
            cases e
            exact ⟨rfl, rfl, h59⟩
          · cases e
        · rename_i h0
          split at e
          · have e1 := Sum.inl.inj e
            have e2 : fs.tail = [] := congrArg (fun s => s.2.2.2) e1
            exact absurd e2 (wfs_n (wfs_t wf h0))
          · cases e
variable {T : Nat → Nat} {n mem nn : Nat} {NW : Nat → Nat}
def lSt (h0 h : xh_H) (T : Nat → Nat) (n mem nn : Nat) (NW : Nat → Nat) (s : aSt) : Prop := GI h0 h T n mem nn NW s.2.1 s.2.2.1 s.2.2.2 s.1 ∧ wfs s.2.2.2 ∧ s.1 ≤ 1
def rlp_Q (h0 : xh_H) (T : Nat → Nat) (n mem nn : Nat) (NW : Nat → Nat) (r : aRs) (v : Option Value) (h' : xh_H) : Prop := fx rT gL h0 h' ∧ (∀ aw p' o', r = .inl (aw, p', o', []) → v = some (.int 1) ∧ rq0 h' T n mem nn NW p' o') ∧ ∀ k pl, r = .inr (k, pl) → v = some (.int 0) ∧ xg 0 h'.2.1 39 13 = nI k ∧ xg 0 h'.2.1 39 14 = nI pl
def isE (r : aRs) : Prop := (∃ k pl, r = .inr (k, pl)) ∨ ∃ aw p o, r = .inl (aw, p, o, [])
theorem frs_h {h : xh_H} {fs : List Nat} (w : frs h fs) (wf : wfs fs) : ∃ ty, fs.head? = some ty ∧ xg 0 h.2.1 47 (fs.length - 1) = nI ty ∧ ty ≤ 2 := by
  cases fs with
  | nil => exact absurd rfl (wfs_n wf)
  | cons a b => exact ⟨a, rfl, w.1, w.2.1⟩
theorem stp_n {s : aSt} (h : s.2.2.2 ≠ []) : stp T n mem nn NW s = if s.1 = 1 then bg T n mem nn NW s.2.1 s.2.2.1 s.2.2.2 else en T n s.2.1 s.2.2.1 s.2.2.2 := by
  unfold stp
  rw [if_neg h]
theorem bls_w {p o aw p' o' : Nat} {fs fs' : List Nat} (wf : wfs fs) (e : bls T n p o fs = .inl (aw, p', o', fs')) : wfs fs' ∧ aw ≤ 1 := by
  unfold bls at e
  split at e
  · cases e
  · split at e
    · cases e
    · split at e
      · cases e
      · cases e
        exact ⟨wfs_c wf (Or.inr rfl), Nat.le_refl _⟩
theorem bo_w {p o aw p' o' : Nat} {fs fs' : List Nat} (wf : wfs fs) (e : bo T n mem nn NW p o fs = .inl (aw, p', o', fs')) : wfs fs' ∧ aw ≤ 1 := by
  unfold bo at e
  repeat' split at e
  all_goals first | (cases e; done) | exact bls_w wf e | (cases e; exact ⟨wfs_c wf (Or.inl rfl), Nat.le_refl _⟩) | (cases e; exact ⟨wf, by decide⟩)
theorem bg_w {p o aw p' o' : Nat} {fs fs' : List Nat} (wf : wfs fs) (e : bg T n mem nn NW p o fs = .inl (aw, p', o', fs')) : wfs fs' ∧ aw ≤ 1 := by
  unfold bg bi at e
  repeat' split at e
  all_goals first | (cases e; done) | exact bls_w wf e | exact bo_w wf e
theorem en_w {p o aw p' o' : Nat} {fs fs' : List Nat} (wf : wfs fs) (e : en T n p o fs = .inl (aw, p', o', fs')) (hne : fs' ≠ []) : wfs fs' ∧ aw ≤ 1 := by
  unfold en at e
  split at e
  · rename_i h2
    split at e
    · cases e
      exact ⟨wfs_t wf (by rw [h2]; intro z; cases z), by decide⟩
    · cases e
      exact ⟨wf, by decide⟩
  · split at e
    · cases e
      exact ⟨wf, by decide⟩
    · split at e
      · cases e
        exact ⟨wf, by decide⟩
      · split at e
        · split at e
          · cases e
            exact absurd rfl hne
          · cases e
        · rename_i h0
          split at e
          · cases e
            exact ⟨wfs_t wf h0, by decide⟩
          · cases e
theorem its_d {p o aw : Nat} : ∀ {k : Nat}, its T n mem nn NW k (aw, p, o, []) = .inl (aw, p, o, []) := by
  intro k
  induction k with
  | zero => rfl
  | succ k ih =>
    show (match stp T n mem nn NW (aw, p, o, []) with
      | .inl s' => its T n mem nn NW k s'
      | .inr e => .inr e) = _
    rw [show stp T n mem nn NW (aw, p, o, []) = .inl (aw, p, o, []) from if_pos rfl]
    exact ih
set_option maxRecDepth 100000 in
set_option maxHeartbeats 4000000 in
/-- the reference's loop does what the automaton does -/
theorem rlp_q {h0 : xh_H} : ∀ (k f : Nat) (s : aSt) (h : xh_H), isE (its T n mem nn NW k s) → lSt h0 h T n mem nn NW s → a_rq a_tb h → xq f xi_X10_readRule xmi_X10_readRule 15 [(0, .ref 39)] [] h (rlp_Q h0 T n mem nn NW (its T n mem nn NW k s)) := by
  intro k
  induction k with
  | zero =>
    intro f s h he ls hq
    rcases he with ⟨k, pl, e⟩ | ⟨aw, p, o, e⟩
    · cases e
    · have e : s = (aw, p, o, []) := Sum.inl.inj e
      subst e
      exact absurd rfl (wfs_n ls.2.1)
  | succ k ih =>
    intro f s h he ls hq
    obtain ⟨aw, p, o, fs⟩ := s
    obtain ⟨gi, wf, aw1⟩ := ls
    have gi : GI h0 h T n mem nn NW p o fs aw := gi
    have wf : wfs fs := wf
    have aw1 : aw ≤ 1 := aw1
    have es : its T n mem nn NW (k + 1) (aw, p, o, fs) = (match stp T n mem nn NW (aw, p, o, fs) with
      | .inl s' => its T n mem nn NW k s'
      | .inr e => .inr e) := rfl
    rw [stp_n (s := (aw, p, o, fs)) (wfs_n wf)] at es
    obtain ⟨ty, hty, e47, ty2⟩ := frs_h gi.2.1.2.2.2.2.2.2.2.2.2.2.1 wf
    have e30 := gi.2.2.2
    have e29 := gi.2.2.1
    by_cases ha : aw = 1
    · subst ha
      have es : its T n mem nn NW (k + 1) (1, p, o, fs) = (match bg T n mem nn NW p o fs with
        | .inl s' => its T n mem nn NW k s'
        | .inr e => .inr e) := es
      refine xq_n 30 [0] [(0, .ref 39)] [.ref 39] h [false, false] 9 hq rfl ⟨(show xe_c .ne (xg 0 h.2.1 39 30) 0 = false by rw [e30]; rfl), (show xe_c .eq (xg 0 h.2.1 39 29) 0 = false by rw [e29]; rfl), trivial⟩ (fun hq => ?_)
      refine xq_run hq rfl rfl (bg_q gi.2.1 hty e47 ty2 hq) ?_
      rintro v h1 ⟨g1, q1, q2⟩
      have hq := fx_q g1 hq
      have gt : fx rT gL h0 h1 := fx_t gi.1 (fx_w g1 (fun _ _ z => rS_t z) (fun _ _ z => z))
      cases hr : bg T n mem nn NW p o fs with
      | inl s' =>
        obtain ⟨aw', p', o', fs'⟩ := s'
        obtain ⟨rfl, r1, r2⟩ := q1 _ _ _ _ hr
        rw [hr] at es
        have es : its T n mem nn NW (k + 1) (1, p, o, fs) = its T n mem nn NW k (aw', p', o', fs') := es
        rw [es] at he ⊢
        refine xq_n 15 [0] [(0, .ref 39)] [] h1 [false] 4 hq rfl ⟨rfl, trivial⟩ (fun hq => ?_)
        obtain ⟨w1, w2⟩ := bg_w wf hr
        exact ih f _ h1 he ⟨⟨gt, r1, r2, (fx_i g1 rfl).trans e30⟩, w1, w2⟩ hq
      | inr e =>
        obtain ⟨k1, pl⟩ := e
        obtain ⟨rfl, r1, r2⟩ := q2 _ _ hr
        rw [hr] at es
        have es : its T n mem nn NW (k + 1) (1, p, o, fs) = .inr (k1, pl) := es
        rw [es]
        refine xq_n 47 [] [] [.int (Int32.ofInt 0)] h1 [true] 4 hq rfl ⟨rfl, trivial⟩ (fun hq => ?_)
        exact xq_ret rfl rfl rfl ⟨gt, fun _ _ _ e => (by cases e), fun _ _ e => by cases e; exact ⟨rfl, r1, r2⟩⟩
    · have ha0 : aw = 0 := by omega
      subst ha0
      have es : its T n mem nn NW (k + 1) (0, p, o, fs) = (match en T n p o fs with
        | .inl s' => its T n mem nn NW k s'
        | .inr e => .inr e) := es
      refine xq_n 40 [0] [(0, .ref 39)] [.ref 39] h [false, true] 9 hq rfl ⟨(show xe_c .ne (xg 0 h.2.1 39 30) 0 = false by rw [e30]; rfl), (show xe_c .eq (xg 0 h.2.1 39 29) 0 = true by rw [e29]; rfl), trivial⟩ (fun hq => ?_)
      refine xq_run hq rfl rfl (en_q hq gi wf hty e47 ty2) ?_
      rintro v h1 ⟨g1, q1, q2, q3⟩
      have hq : a_rq a_tb h1 := fx_q (fx_t (fx_0 (S := rT) (L := gL)) g1) (a_rq_h0 gi.1 hq)
      cases hr : en T n p o fs with
      | inl s' =>
        obtain ⟨aw', p', o', fs'⟩ := s'
        rw [hr] at es
        have es : its T n mem nn NW (k + 1) (0, p, o, fs) = its T n mem nn NW k (aw', p', o', fs') := es
        by_cases hn : fs' = []
        · subst hn
          rw [its_d] at es
          rw [es]
          obtain ⟨rfl, r1, r2⟩ := q2 _ _ _ hr
          have ep : p' = tke T n p ∧ o' = o ∧ tkk T n p = 59 := en_e wf hr
          refine xq_n 15 [0] [(0, .ref 39)] [] h1 [true] 3 hq rfl ⟨rfl, trivial⟩ (fun hq => ?_)
          refine xq_n 49 [0] [(0, .ref 39)] [.ref 39] h1 [true] 6 hq rfl ⟨(show xe_c .ne (xg 0 h1.2.1 39 30) 0 = true by rw [r1]; rfl), trivial⟩ (fun hq => ?_)
          obtain ⟨s1, s2, s3, s4, s5, s6, s7, s8⟩ := r2
          have nz : tkk T n p ≠ 0 := by omega
          refine xq_run hq rfl rfl (go_q hq s1 (s2.2.2.2.2.2 nz) (tke_le nz)) ?_
          rintro v h2 ⟨rfl, g2, t2⟩
          have hq := fx_q g2 hq
          refine xq_n 53 [] [] [.int (Int32.ofInt 1)] h2 [] 3 hq rfl trivial (fun hq => ?_)
          refine xq_ret rfl rfl rfl ⟨fx_t g1 (fx_w g2 (fun _ _ z => gS_r (rS_t z)) (fun _ _ z => z)), fun _ _ _ e => ?_, fun _ _ e => (by cases e)⟩
          cases e
          obtain ⟨rfl, rfl, -⟩ := ep
          exact ⟨rfl, rtp_f s1 g2 rfl (fun _ => rfl), t2, (fx_i g2 rfl).trans s3, s4, nms_f s5 g2 rfl (fun _ => rfl), (fx_i g2 rfl).trans s6, s7, (fx_i g2 rfl).trans s8⟩
        · obtain ⟨rfl, r1, r2, r3⟩ := q1 _ _ _ _ hr hn
          rw [es] at he ⊢
          refine xq_n 15 [0] [(0, .ref 39)] [] h1 [true] 3 hq rfl ⟨rfl, trivial⟩ (fun hq => ?_)
          obtain ⟨w1, w2⟩ := en_w wf hr hn
          exact ih f _ h1 he ⟨⟨g1, r1, r2, r3⟩, w1, w2⟩ hq
      | inr e =>
        obtain ⟨k1, pl⟩ := e
        obtain ⟨rfl, r1, r2⟩ := q3 _ _ hr
        rw [hr] at es
        have es : its T n mem nn NW (k + 1) (0, p, o, fs) = .inr (k1, pl) := es
        rw [es]
        refine xq_n 47 [] [] [.int (Int32.ofInt 0)] h1 [false] 4 hq rfl ⟨rfl, trivial⟩ (fun hq => ?_)
        exact xq_ret rfl rfl rfl ⟨g1, fun _ _ _ e => (by cases e), fun _ _ e => by cases e; exact ⟨rfl, r1, r2⟩⟩
end XRI
end
section
section XRJ
variable {T : Nat → Nat} {n mem nn : Nat} {NW : Nat → Nat}
/-- a rule is read: behind which token, with how many ones; or a fault -/
def RLq (T : Nat → Nat) (n mem nn : Nat) (NW : Nat → Nat) (p o : Nat) (q : Sum (Nat × Nat) (Nat × Nat)) : Prop := (∃ k pl, q = .inr (k, pl) ∧ Fl T n mem nn NW (1, tke T n p, o, [0]) (k, pl)) ∨ ∃ p' o', q = .inl (p', o') ∧ Rc T n mem nn NW (1, tke T n p, o, [0]) (0, p', o', [])
def rrl_Q (h0 : xh_H) (T : Nat → Nat) (n mem nn : Nat) (NW : Nat → Nat) (q : Sum (Nat × Nat) (Nat × Nat)) (v : Option Value) (h' : xh_H) : Prop := fx rT gL h0 h' ∧ (∀ p' o', q = .inl (p', o') → v = some (.int 1) ∧ rq0 h' T n mem nn NW p' o') ∧ ∀ k pl, q = .inr (k, pl) → v = some (.int 0) ∧ xg 0 h'.2.1 39 13 = nI k ∧ xg 0 h'.2.1 39 14 = nI pl
set_option maxRecDepth 100000 in
set_option maxHeartbeats 4000000 in
/-- X10.readRule -/
theorem rrl_q {f p o : Nat} {h : xh_H} {q : Sum (Nat × Nat) (Nat × Nat)} (hR : RLq T n mem nn NW p o q) (r0 : rq0 h T n mem nn NW p o) (nz : tkk T n p ≠ 0) (hq : a_rq a_tb h) : xq f xi_X10_readRule xmi_X10_readRule 0 [(0, .ref 39)] [] h (rrl_Q h T n mem nn NW q) := by
  obtain ⟨s1, s2, s3, s4, s5, s6, s7, s8⟩ := r0
  refine xq_n 12 [0] [(0, .ref 39)] [.int (Int32.ofInt 0), .ref 39] (xh_ui (xh_ui h 39 28 (Int32.ofInt 0)) 39 30 (Int32.ofInt 0)) [] 10 hq rfl trivial (fun _ => ?_)
  have hq : a_rq a_tb (xh_ui (xh_ui h 39 28 (Int32.ofInt 0)) 39 30 (Int32.ofInt 0)) := a_rq_ui (a_rq_ui hq)
  have g1 : fx rT gL h (xh_ui (xh_ui h 39 28 (Int32.ofInt 0)) 39 30 (Int32.ofInt 0)) := fx_ui (fx_ui fx_0 rfl) rfl
  refine xq_run hq rfl rfl (opr_q (t := 0) (ty := 0) (e := tke T n p) (by decide) (tke_le nz) hq (rtp_f s1 g1 rfl (fun _ => rfl)) ((gx_k (by decide)).trans ((gx_k (by decide)).trans (s2.2.2.2.2.2 nz))) ((gx_k (by decide)).trans gx_s)) ?_
  rintro v h2 ⟨rfl, g2, t2, y2, a2⟩
  have hq := fx_q g2 hq
  have g3 : fx rT gL h h2 := fx_t g1 (fx_w g2 (fun _ _ z => oS_r (rS_t z)) (fun _ _ z => z))
  have hrr : rr h2 T n mem nn NW (tke T n p) o [0] := ⟨rtp_f s1 g3 rfl (fun _ => rfl), t2, (fx_i g3 rfl).trans s3, s4, nms_f s5 g3 rfl (fun _ => rfl), (fx_i g2 rfl).trans ((gx_k (by decide)).trans ((gx_k (by decide)).trans s6)), s7, (fx_i g2 rfl).trans ((gx_k (by decide)).trans gx_s), by decide, by decide, ⟨y2, by decide, trivial⟩, (fx_i g2 rfl).trans ((gx_k (by decide)).trans ((gx_k (by decide)).trans s8))⟩
  have hls : lSt h h2 T n mem nn NW (1, tke T n p, o, [0]) := ⟨⟨g3, hrr, a2, (fx_i g2 rfl).trans gx_s⟩, rfl, Nat.le_refl _⟩
  rcases hR with ⟨k, pl, rfl, j, hj⟩ | ⟨p', o', rfl, j, hj⟩
  · refine xq_mono (rlp_q j f _ h2 (Or.inl ⟨k, pl, hj⟩) hls hq) (fun v h' ⟨q1, q2, q3⟩ => ⟨q1, fun _ _ e => (by cases e), fun _ _ e => ?_⟩)
    cases e
    exact q3 _ _ hj
  · refine xq_mono (rlp_q j f _ h2 (Or.inr ⟨0, p', o', hj⟩) hls hq) (fun v h' ⟨q1, q2, q3⟩ => ⟨q1, fun _ _ e => ?_, fun _ _ e => (by cases e)⟩)
    cases e
    exact q2 _ _ _ hj
/-- a body is read -/
def bq (w : Nat) (q : Sum (Nat × Nat) (Nat × Nat)) : Sum (Nat × Nat × Nat) (Nat × Nat) := match q with
  | .inl s => .inl (s.1, s.2, w)
  | .inr e => .inr e
def Bdy (T : Nat → Nat) (n mem nn : Nat) (NW : Nat → Nat) (p o : Nat) (r : Sum (Nat × Nat × Nat) (Nat × Nat)) : Prop := if nmt T n (tke T n p) = false then r = .inr (1, tks T n (tke T n p)) else if hasn nn NW (tkw T n (tke T n p)) = true then r = .inr (3, tks T n (tke T n p)) else if nn = 16 then r = .inr (4, tks T n (tke T n p)) else if tkk T n (tke T n (tke T n p)) ≠ 58 then r = .inr (1, tks T n (tke T n (tke T n p))) else ∃ q, RLq T n mem nn NW (tke T n (tke T n p)) o q ∧ r = bq (tkw T n (tke T n p)) q
def upN (NW : Nat → Nat) (nn w : Nat) : Nat → Nat := fun k => if k = nn then w else NW k
def rU (c k : Nat) : Bool := rT c k || ((Nat.beq c 39 && Nat.beq k 26) || Nat.beq c 43)
def rV (c k : Nat) : Bool := gL c k || Nat.beq c 50
theorem rT_u {c k : Nat} (h : rU c k = false) : rT c k = false := (or_f h).1
theorem gL_v {c k : Nat} (h : rV c k = false) : gL c k = false := (or_f h).1
theorem or_t {a b : Bool} (h : a = true) : (a || b) = true := by rw [h]; rfl
def bd_R (h0 : xh_H) (T : Nat → Nat) (n mem nn : Nat) (NW : Nat → Nat) (r : Sum (Nat × Nat × Nat) (Nat × Nat)) (v : Option Value) (h' : xh_H) : Prop := fx rU rV h0 h' ∧ (∀ p' o' w, r = .inl (p', o', w) → v = some (.int 1) ∧ rq0 h' T n mem (nn + 1) (upN NW nn w) p' o') ∧ ∀ k pl, r = .inr (k, pl) → v = some (.int 0) ∧ xg 0 h'.2.1 39 13 = nI k ∧ xg 0 h'.2.1 39 14 = nI pl
set_option maxRecDepth 100000 in
set_option maxHeartbeats 4000000 in
theorem bl_91 {h0 : xh_H} {Q : Option Value → xh_H → Prop} (K : ∀ (f : Nat) (x : Int32) (h : xh_H), a_rq a_tb h → fx (fun c _ => Nat.beq c 43) fN h0 h → xq f xi_X10_readBody xmi_X10_readBody 125 [(0, .ref 39), (3, .int x)] [] h Q) : ∀ (f : Nat) (x : Int32) (h : xh_H), a_rq a_tb h → fx (fun c _ => Nat.beq c 43) fN h0 h → xq f xi_X10_readBody xmi_X10_readBody 91 [(0, .ref 39), (3, .int x)] [] h Q := by
  intro f
  induction f with
  | zero => intros; exact xq_0
  | succ f ih =>
    intro x h hq g0
    cases c1 : xe_c .ge x 4096 with
    | true =>
      refine xq_m 125 [0, 3] [(0, .ref 39), (3, .int x)] [] h [true] 5 hq rfl ⟨c1, trivial⟩ (fun hq => ?_)
      exact K f _ _ hq g0
    | false =>
      refine xq_m 91 [0, 3] [(0, .ref 39), (3, .int (x + Int32.ofInt 1))] [] (xh_ui h 43 (((4096 * (xg 0 h.2.1 39 26)) + x).toNatClampNeg) (vp_nar .boolean (xg 0 h.2.1 45 x.toNatClampNeg))) [false] 20 hq rfl ⟨c1, trivial⟩ (fun _ => ?_)
      have hq : a_rq a_tb (xh_ui h 43 (((4096 * (xg 0 h.2.1 39 26)) + x).toNatClampNeg) (vp_nar .boolean (xg 0 h.2.1 45 x.toNatClampNeg))) := a_rq_ui hq
      exact ih _ _ hq (fx_t g0 (fx_ui (fx_0) rfl))
set_option maxRecDepth 100000 in
set_option maxHeartbeats 4000000 in
/-- X10.readBody -/
theorem rbd_q {f p o : Nat} {h : xh_H} {r : Sum (Nat × Nat × Nat) (Nat × Nat)} (hB : Bdy T n mem nn NW p o r) (r0 : rq0 h T n mem nn NW p o) (nz : tkk T n p ≠ 0) (hq : a_rq a_tb h) : xq f xi_X10_readBody xmi_X10_readBody 0 [(0, .ref 39)] [] h (bd_R h T n mem nn NW r) := by
  have hT : ∀ k, k < n → T k < 256 := fun k hk' => (r0.1.2.2 k hk').1
  have rt := r0.2.1
  have kb := tkk_lt (T := T) (n := n) (p := p) hT
  have n16 := r0.2.2.2.2.1.2.1
  have n6 := r0.1.2.1
  have o120 := r0.2.2.2.2.2.2.1
  refine xq_n 1 [0] [(0, .ref 39)] [.ref 39] h [] 3 hq rfl trivial (fun hq => ?_)
  have nz1 : tkk T n p ≠ 0 := by omega
  have le1 := tke_le nz1
  refine xq_run hq rfl rfl (go_q hq (r0.1) (rt.2.2.2.2.2 (by omega)) le1) ?_
  rintro v1 h1 ⟨rfl, g1, t1⟩
  have hq := fx_q g1 hq
  have rb1 := (rkk_k (T := T) (n := n) (p := tke T n p)).1
  have kb1 := tkk_lt (T := T) (n := n) (p := tke T n p) hT
  refine xq_n 5 [0] [(0, .ref 39)] [.ref 39] h1 [] 3 hq rfl trivial (fun hq => ?_)
  refine xq_run hq rfl rfl (rnm_q hT (t1) hq) ?_
  rintro v2 h_v2 ⟨rfl, rfl⟩
  cases b3 : (nmt T n (tke T n p)) with
  | true =>
    have db3 := of_decide_eq_true b3
    refine xq_n 18 [0] [(0, .ref 39)] [.ref 39] h1 [true] 4 hq rfl ⟨rfl, trivial⟩ (fun hq => ?_)
    refine xq_run hq rfl rfl (nh_q (nms_f (S := rT) (L := gL) r0.2.2.2.2.1 (fx_t (fx_0) (fx_w g1 (fun _ _ z => gS_r (rS_t z)) (fun _ _ z => z))) rfl (fun _ => rfl)) ((t1.2.2.1 (by omega)).2) (tkw_lt (by omega)) hq) ?_
    rintro v4 h_4 ⟨rfl, ⟨rfl, hn4⟩ | ⟨kk4, kl4, rfl, -, hn4⟩⟩
    · skip
      cases c5 : xe_c .ne (nI nn) 16 with
      | true =>
        have z5 : nn ≠ 16 := nq_net (a := nn) (b := 16) (by omega) (by omega) c5
        refine xq_n 52 [0, 1] [(0, .ref 39), (1, .long (xg 0 h1.2.2.1 39 15))] [.ref 39] h1 [true, true] 12 hq rfl ⟨(by decide), (show xe_c .ne (xg 0 h1.2.1 39 26) 16 = true by rw [show (xg 0 h1.2.1 39 26) = (nI nn) from (fx_i g1 rfl).trans (r0.2.2.2.2.1.1)]; exact c5), trivial⟩ (fun hq => ?_)
        rw [show (xg 0 h1.2.2.1 39 15) = (Int64.ofNat (tkw T n (tke T n p))) from (t1.2.2.1 (by omega)).2]
        have nz6 : tkk T n (tke T n p) ≠ 0 := by omega
        have le6 := tke_le nz6
        refine xq_run hq rfl rfl (go_q hq (rtp_f (S := rT) (L := gL) r0.1 (fx_t (fx_0) (fx_w g1 (fun _ _ z => gS_r (rS_t z)) (fun _ _ z => z))) rfl (fun _ => rfl)) (t1.2.2.2.2.2 (by omega)) le6) ?_
        rintro v6 h6 ⟨rfl, g6, t6⟩
        have hq := fx_q g6 hq
        have rb6 := (rkk_k (T := T) (n := n) (p := tke T n (tke T n p))).1
        have kb6 := tkk_lt (T := T) (n := n) (p := tke T n (tke T n p)) hT
        refine xq_n 58 [0, 1] [(0, .ref 39), (1, .long (Int64.ofNat (tkw T n (tke T n p))))] [.int 58, .ref 39] h6 [] 4 hq rfl trivial (fun hq => ?_)
        refine xq_run hq rfl rfl (rsg_q (c := 58) (by decide) (by decide) hT (t6) hq) ?_
        rintro v7 h_v7 ⟨rfl, rfl⟩
        cases b8 : (decide (tkk T n (tke T n (tke T n p)) = 58)) with
        | true =>
          have db8 := of_decide_eq_true b8
          refine xq_n 71 [0, 1] [(0, .ref 39), (1, .long (Int64.ofNat (tkw T n (tke T n p))))] [.ref 39] h6 [true] 4 hq rfl ⟨rfl, trivial⟩ (fun hq => ?_)
          have hE : ∃ q, RLq T n mem nn NW (tke T n (tke T n p)) o q ∧ r = bq (tkw T n (tke T n p)) q := by
            have e := hB
            unfold Bdy at e
            repeat (first | rw [if_pos (by omega)] at e | rw [if_neg (by omega)] at e | rw [if_pos b3] at e | rw [if_neg (by rw [b3]; decide)] at e | rw [if_pos b8] at e | rw [if_neg (by rw [b8]; decide)] at e | rw [if_pos hn4] at e | rw [if_neg (by rw [hn4]; decide)] at e)
            exact e
          obtain ⟨q, hR, er⟩ := hE
          have gA : fx rT gL h h6 := fx_t (fx_t (fx_0) (fx_w g1 (fun _ _ z => gS_r (rS_t z)) (fun _ _ z => z))) (fx_w g6 (fun _ _ z => gS_r (rS_t z)) (fun _ _ z => z))
          refine xq_run hq rfl rfl (rrl_q hR ⟨rtp_f (S := rT) (L := gL) r0.1 (fx_t (fx_t (fx_0) (fx_w g1 (fun _ _ z => gS_r (rS_t z)) (fun _ _ z => z))) (fx_w g6 (fun _ _ z => gS_r (rS_t z)) (fun _ _ z => z))) rfl (fun _ => rfl), t6, (fx_i g6 rfl).trans ((fx_i g1 rfl).trans (r0.2.2.1)), r0.2.2.2.1, nms_f (S := rT) (L := gL) r0.2.2.2.2.1 (fx_t (fx_t (fx_0) (fx_w g1 (fun _ _ z => gS_r (rS_t z)) (fun _ _ z => z))) (fx_w g6 (fun _ _ z => gS_r (rS_t z)) (fun _ _ z => z))) rfl (fun _ => rfl), (fx_i g6 rfl).trans ((fx_i g1 rfl).trans (r0.2.2.2.2.2.1)), r0.2.2.2.2.2.2.1, (fx_i g6 rfl).trans ((fx_i g1 rfl).trans (r0.2.2.2.2.2.2.2))⟩ (by omega) hq) ?_
          rintro v h9 ⟨g9, q1, q2⟩
          have hq := fx_q g9 hq
          have gB : fx rT gL h h9 := fx_t gA g9
          cases q with
          | inr e =>
            obtain ⟨k, pl⟩ := e
            obtain ⟨rfl, f1, f2⟩ := q2 _ _ rfl
            refine xq_n 78 [] [] [.int (Int32.ofInt 0)] h9 [false] 4 hq rfl ⟨rfl, trivial⟩ (fun hq => ?_)
            refine xq_ret rfl rfl rfl ⟨fx_w gB (fun _ _ => rT_u) (fun _ _ => gL_v), fun _ _ _ e => (by rw [er] at e; cases e), fun _ _ e => ?_⟩
            rw [er] at e
            cases e
            exact ⟨rfl, f1, f2⟩
          | inl s =>
            obtain ⟨p', o'⟩ := s
            obtain ⟨rfl, r9⟩ := q1 _ _ rfl
            have e26 := r9.2.2.2.2.1.1
            refine xq_n 91 [0, 3] [(0, .ref 39), (3, .int (Int32.ofInt 0))] [] (xh_ul h9 50 (xg 0 h9.2.1 39 26).toNatClampNeg (Int64.ofNat (tkw T n (tke T n p)))) [true] 11 hq rfl ⟨rfl, trivial⟩ (fun _ => ?_)
            rw [e26, show (nI nn).toNatClampNeg = nn from nI_clamp (by omega)]
            have hq : a_rq a_tb (xh_ul h9 50 nn (Int64.ofNat (tkw T n (tke T n p)))) := a_rq_ul hq
            refine bl_91 (fun f x h3 hq g3 => ?_) f _ _ hq fx_0
            refine xq_n 136 [] [] [.int (Int32.ofInt 1)] (xh_ui h3 39 26 ((xg 0 h3.2.1 39 26) + (Int32.ofInt 1))) [] 9 hq rfl trivial (fun _ => ?_)
            have f26 : xg 0 h3.2.1 39 26 = nI nn := (fx_i g3 rfl).trans e26
            rw [f26, show nI nn + Int32.ofInt 1 = nI (nn + 1) from nI_1 _]
            have gC : fx rU rV h (xh_ui h3 39 26 (nI (nn + 1))) := fx_ui (fx_t (fx_t (fx_w gB (fun _ _ => rT_u) (fun _ _ => gL_v)) (fx_ul fx_0 rfl)) (fx_w g3 (fun c k z => by have := (or_f (or_f z).2).2; exact this) (fun _ _ _ => rfl))) rfl
            refine xq_ret rfl rfl rfl ⟨gC, fun _ _ _ e => ?_, fun _ _ e => (by rw [er] at e; cases e)⟩
            rw [er] at e
            cases e
            obtain ⟨s1, s2, s3, s4, s5, s6, s7, s8⟩ := r9
            have g4 : fx (fun c k => Nat.beq c 43 || (Nat.beq c 39 && Nat.beq k 26)) rV h9 (xh_ui h3 39 26 (nI (nn + 1))) := fx_ui (fx_t (fx_ul fx_0 rfl) (fx_w g3 (fun _ _ z => (or_f z).1) (fun _ _ _ => rfl))) rfl
            have lq : ∀ k, xg 0 (xh_ui h3 39 26 (nI (nn + 1))).2.2.1 50 k = xg 0 (xh_ul h9 50 nn (Int64.ofNat (tkw T n (tke T n p)))).2.2.1 50 k := fun k => (show xg 0 h3.2.2.1 50 k = xg 0 (xh_ul h9 50 nn (Int64.ofNat (tkw T n (tke T n p)))).2.2.1 50 k from fx_l (c := 50) (k := k) g3 rfl)
            have l15 : xg 0 (xh_ui h3 39 26 (nI (nn + 1))).2.2.1 39 15 = xg 0 h9.2.2.1 39 15 := (fx_l (c := 39) (k := 15) g3 rfl).trans (gl_o (by decide))
            refine ⟨rfl, rtp_f s1 g4 rfl (fun _ => rfl), ?_, (fx_i g4 rfl).trans s3, s4, ⟨gx_s, by omega, fun k hk' => ?_⟩, (fx_i g4 rfl).trans s6, s7, (fx_i g4 rfl).trans s8⟩
            · have q : ∀ j, 7 ≤ j → j ≤ 12 → xg 0 (xh_ui h3 39 26 (nI (nn + 1))).2.1 39 j = xg 0 h9.2.1 39 j := fun j j1 j2 => fx_i g4 (by rw [show Nat.beq j 26 = false from by rw [Bool.eq_false_iff]; intro z; have := Nat.eq_of_beq_eq_true z; omega]; rfl)
              obtain ⟨r1, r2, r3, r4, r5, r6⟩ := s2
              exact ⟨by rw [q 8 (by decide) (by decide)]; exact r1, by rw [q 9 (by decide) (by decide)]; exact r2, fun z => ⟨by rw [q 12 (by decide) (by decide)]; exact (r3 z).1, l15.trans (r3 z).2⟩, fun z => by rw [q 10 (by decide) (by decide)]; exact r4 z, fun z => by rw [q 11 (by decide) (by decide)]; exact r5 z, fun z => by rw [q 7 (by decide) (by decide)]; exact r6 z⟩
            · unfold upN
              by_cases ek : k = nn
              · rw [if_pos ek]
                refine ⟨tkw_lt (by omega), ?_⟩
                rw [lq, ek]
                exact gl_s
              · rw [if_neg ek]
                refine ⟨(s5.2.2 k (by omega)).1, ?_⟩
                rw [lq, gl_k ek]
                exact (s5.2.2 k (by omega)).2
        | false =>
          have db8 := of_decide_eq_false b8
          refine xq_n 66 [0, 1] [(0, .ref 39), (1, .long (Int64.ofNat (tkw T n (tke T n p))))] [.int (Int32.ofInt 1), .ref 39] h6 [false] 5 hq rfl ⟨rfl, trivial⟩ (fun hq => ?_)
          refine xq_run hq rfl rfl (bad_q (k := 1) hT (t6) hq) ?_
          rintro v9 h9 ⟨rfl, g9, f9, l9⟩
          have hq := fx_q g9 hq
          rw [show (if rkk T n (tke T n (tke T n p)) = 1 then 1 else 1) = 1 by split <;> rfl] at f9
          have er : r = .inr (1, tks T n (tke T n (tke T n p))) := by
            have e := hB
            unfold Bdy at e
            repeat (first | rw [if_pos (by omega)] at e | rw [if_neg (by omega)] at e | rw [if_pos b3] at e | rw [if_neg (by rw [b3]; decide)] at e | rw [if_pos b8] at e | rw [if_neg (by rw [b8]; decide)] at e | rw [if_pos hn4] at e | rw [if_neg (by rw [hn4]; decide)] at e)
            exact e
          refine xq_ret rfl rfl rfl ⟨fx_w (fx_t (fx_t (fx_t (fx_0) (fx_w g1 (fun _ _ z => gS_r (rS_t z)) (fun _ _ z => z))) (fx_w g6 (fun _ _ z => gS_r (rS_t z)) (fun _ _ z => z))) (fx_w g9 (fun _ _ z => bS_r (rS_t z)) (fun _ _ _ => rfl))) (fun _ _ => rT_u) (fun _ _ => gL_v), fun _ _ _ e => (by rw [er] at e; cases e), fun _ _ e => ?_⟩
          rw [er] at e
          cases e
          exact ⟨rfl, f9, l9⟩
      | false =>
        have z5 : nn = 16 := nq_nef (a := nn) (b := 16) (by omega) (by omega) c5
        refine xq_n 42 [0] [(0, .ref 39)] [.int (Int32.ofInt 4), .ref 39] h1 [true, false] 10 hq rfl ⟨(by decide), (show xe_c .ne (xg 0 h1.2.1 39 26) 16 = false by rw [show (xg 0 h1.2.1 39 26) = (nI nn) from (fx_i g1 rfl).trans (r0.2.2.2.2.1.1)]; exact c5), trivial⟩ (fun hq => ?_)
        refine xq_run hq rfl rfl (bad_q (k := 4) hT (t1) hq) ?_
        rintro v10 h10 ⟨rfl, g10, f10, l10⟩
        have hq := fx_q g10 hq
        rw [if_neg (show ¬ rkk T n (tke T n p) = 1 from fun e => by have e1 := rk1.mp e; omega)] at f10
        have er : r = .inr (4, tks T n (tke T n p)) := by
          have e := hB
          unfold Bdy at e
          repeat (first | rw [if_pos (by omega)] at e | rw [if_neg (by omega)] at e | rw [if_pos b3] at e | rw [if_neg (by rw [b3]; decide)] at e | rw [if_pos hn4] at e | rw [if_neg (by rw [hn4]; decide)] at e)
          exact e
        refine xq_ret rfl rfl rfl ⟨fx_w (fx_t (fx_t (fx_0) (fx_w g1 (fun _ _ z => gS_r (rS_t z)) (fun _ _ z => z))) (fx_w g10 (fun _ _ z => bS_r (rS_t z)) (fun _ _ _ => rfl))) (fun _ _ => rT_u) (fun _ _ => gL_v), fun _ _ _ e => (by rw [er] at e; cases e), fun _ _ e => ?_⟩
        rw [er] at e
        cases e
        exact ⟨rfl, f10, l10⟩
    · skip
      cases c11 : xe_c .eq (nI kk4) (Int32.ofInt (-1)) with
      | true =>
        exact absurd (of_decide_eq_true c11) (nIm1 (by omega))
      | false =>
        refine xq_n 27 [0] [(0, .ref 39)] [.int (Int32.ofInt 3), .ref 39] h1 [false] 6 hq rfl ⟨c11, trivial⟩ (fun hq => ?_)
        refine xq_run hq rfl rfl (bad_q (k := 3) hT (t1) hq) ?_
        rintro v12 h12 ⟨rfl, g12, f12, l12⟩
        have hq := fx_q g12 hq
        rw [if_neg (show ¬ rkk T n (tke T n p) = 1 from fun e => by have e1 := rk1.mp e; omega)] at f12
        have er : r = .inr (3, tks T n (tke T n p)) := by
          have e := hB
          unfold Bdy at e
          repeat (first | rw [if_pos (by omega)] at e | rw [if_neg (by omega)] at e | rw [if_pos b3] at e | rw [if_neg (by rw [b3]; decide)] at e | rw [if_pos hn4] at e | rw [if_neg (by rw [hn4]; decide)] at e)
          exact e
        refine xq_ret rfl rfl rfl ⟨fx_w (fx_t (fx_t (fx_0) (fx_w g1 (fun _ _ z => gS_r (rS_t z)) (fun _ _ z => z))) (fx_w g12 (fun _ _ z => bS_r (rS_t z)) (fun _ _ _ => rfl))) (fun _ _ => rT_u) (fun _ _ => gL_v), fun _ _ _ e => (by rw [er] at e; cases e), fun _ _ e => ?_⟩
        rw [er] at e
        cases e
        exact ⟨rfl, f12, l12⟩
  | false =>
    have db3 := of_decide_eq_false b3
    refine xq_n 13 [0] [(0, .ref 39)] [.int (Int32.ofInt 1), .ref 39] h1 [false] 5 hq rfl ⟨rfl, trivial⟩ (fun hq => ?_)
    refine xq_run hq rfl rfl (bad_q (k := 1) hT (t1) hq) ?_
    rintro v13 h13 ⟨rfl, g13, f13, l13⟩
    have hq := fx_q g13 hq
    rw [show (if rkk T n (tke T n p) = 1 then 1 else 1) = 1 by split <;> rfl] at f13
    have er : r = .inr (1, tks T n (tke T n p)) := by
      have e := hB
      unfold Bdy at e
      repeat (first | rw [if_pos (by omega)] at e | rw [if_neg (by omega)] at e | rw [if_pos b3] at e | rw [if_neg (by rw [b3]; decide)] at e)
      exact e
    refine xq_ret rfl rfl rfl ⟨fx_w (fx_t (fx_t (fx_0) (fx_w g1 (fun _ _ z => gS_r (rS_t z)) (fun _ _ z => z))) (fx_w g13 (fun _ _ z => bS_r (rS_t z)) (fun _ _ _ => rfl))) (fun _ _ => rT_u) (fun _ _ => gL_v), fun _ _ _ e => (by rw [er] at e; cases e), fun _ _ e => ?_⟩
    rw [er] at e
    cases e
    exact ⟨rfl, f13, l13⟩
end XRJ
end
section
section XRK
variable {T : Nat → Nat} {n mem nn : Nat} {NW : Nat → Nat}
/-- behind the bodies -/
def Fin_ (T : Nat → Nat) (n mem p o nn : Nat) (NW : Nat → Nat) (r : Sum Nat (Nat × Nat)) : Prop := if ky T n p 1 = false then r = .inr (1, tks T n p) else ∃ q, RLq T n mem nn NW p o q ∧ ((∃ k pl, q = .inr (k, pl) ∧ r = .inr (k, pl)) ∨ ∃ p' o', q = .inl (p', o') ∧ r = (if rkk T n p' = 0 then .inl nn else .inr (1, tks T n p')))
/-- A TEXT IS READ: how many names, or a fault and its place -/
def Tx (T : Nat → Nat) (n mem : Nat) : Nat → Nat → Nat → Nat → (Nat → Nat) → Sum Nat (Nat × Nat) → Prop
  | 0, p, o, nn, NW, r => ky T n p 0 = false ∧ Fin_ T n mem p o nn NW r
  | j + 1, p, o, nn, NW, r => ky T n p 0 = true ∧ ∃ b, Bdy T n mem nn NW p o b ∧ ((∃ k pl, b = .inr (k, pl) ∧ r = .inr (k, pl)) ∨ ∃ p' o' w, b = .inl (p', o', w) ∧ Tx T n mem j p' o' (nn + 1) (upN NW nn w) r)
/-- what a statute may change -/
def rW (c k : Nat) : Bool := rU c k || ((Nat.beq c 39 && Nat.beq k 33) || (Nat.beq c 44 || (Nat.beq c 51 || Nat.beq c 52)))
theorem rU_w {c k : Nat} (h : rW c k = false) : rU c k = false := (or_f h).1
def st_Q (h0 : xh_H) (sc : Nat) (fd : Int32) (r : Sum Nat (Nat × Nat)) (v : Option Value) (h' : xh_H) : Prop := fx rW rV h0 h' ∧ (∀ m, r = .inl m → v = some (.int (nI m)) ∧ xg 0 h'.2.1 39 33 = nI (sc + 1) ∧ xg 0 h'.2.1 39 13 = nI 0) ∧ ∀ k pl, r = .inr (k, pl) → v = some (.int (Int32.ofInt (-1) - nI pl)) ∧ xg 0 h'.2.1 39 33 = nI sc ∧ xg 0 h'.2.1 39 13 = nI k
set_option maxRecDepth 100000 in
set_option maxHeartbeats 4000000 in
theorem sl_141 {h0 : xh_H} {fd : Int32} {Q : Option Value → xh_H → Prop} (K : ∀ (f : Nat) (x : Int32) (h : xh_H), a_rq a_tb h → fx (fun c _ => Nat.beq c 44) fN h0 h → xq f xi_X10_statute xmi_X10_statute 175 [(0, .ref 39), (1, .int fd), (3, .int x)] [] h Q) : ∀ (f : Nat) (x : Int32) (h : xh_H), a_rq a_tb h → fx (fun c _ => Nat.beq c 44) fN h0 h → xq f xi_X10_statute xmi_X10_statute 141 [(0, .ref 39), (1, .int fd), (3, .int x)] [] h Q := by
  intro f
  induction f with
  | zero => intros; exact xq_0
  | succ f ih =>
    intro x h hq g0
    cases c1 : xe_c .ge x 4096 with
    | true =>
      refine xq_m 175 [0, 1, 3] [(0, .ref 39), (1, .int fd), (3, .int x)] [] h [true] 5 hq rfl ⟨c1, trivial⟩ (fun hq => ?_)
      exact K f _ _ hq g0
    | false =>
      refine xq_m 141 [0, 1, 3] [(0, .ref 39), (1, .int fd), (3, .int (x + Int32.ofInt 1))] [] (xh_ui h 44 (((4096 * (xg 0 h.2.1 39 33)) + x).toNatClampNeg) (vp_nar .boolean (xg 0 h.2.1 45 x.toNatClampNeg))) [false] 20 hq rfl ⟨c1, trivial⟩ (fun _ => ?_)
      have hq : a_rq a_tb (xh_ui h 44 (((4096 * (xg 0 h.2.1 39 33)) + x).toNatClampNeg) (vp_nar .boolean (xg 0 h.2.1 45 x.toNatClampNeg))) := a_rq_ui hq
      exact ih _ _ hq (fx_t g0 (fx_ui (fx_0) rfl))
set_option maxRecDepth 100000 in
set_option maxHeartbeats 4000000 in
/-- the text is accepted -/
theorem st_ok {f sc m : Nat} {fd : Int32} {h0 h : xh_H} (hq : a_rq a_tb h) (g0 : fx rU rV h0 h) (e33 : xg 0 h.2.1 39 33 = nI sc) (sc8 : sc < 8) (e26 : xg 0 h.2.1 39 26 = nI m) (e13 : xg 0 h.2.1 39 13 = nI 0) : xq f xi_X10_statute xmi_X10_statute 139 [(0, .ref 39), (1, .int fd)] [] h (st_Q h0 sc fd (.inl m)) := by
  refine xq_n 141 [0, 1, 3] [(0, .ref 39), (1, .int fd), (3, .int (Int32.ofInt 0))] [] h [] 4 hq rfl trivial (fun hq => ?_)
  refine sl_141 (fun f x h1 hq g1 => ?_) f _ _ hq fx_0
  have f33 : xg 0 h1.2.1 39 33 = nI sc := (fx_i g1 rfl).trans e33
  have f26 : xg 0 h1.2.1 39 26 = nI m := (fx_i g1 rfl).trans e26
  have f13 : xg 0 h1.2.1 39 13 = nI 0 := (fx_i g1 rfl).trans e13
  refine xq_n 185 [0] [(0, .ref 39)] [] (xh_ui h1 51 (xg 0 h1.2.1 39 33).toNatClampNeg fd) [] 8 hq rfl trivial (fun _ => ?_)
  rw [f33, show (nI sc).toNatClampNeg = sc from nI_clamp (by omega)]
  have hq : a_rq a_tb (xh_ui h1 51 sc fd) := a_rq_ui hq
  have d33 : xg 0 (xh_ui h1 51 sc fd).2.1 39 33 = nI sc := (gx_o (by decide)).trans f33
  have d26 : xg 0 (xh_ui h1 51 sc fd).2.1 39 26 = nI m := (gx_o (by decide)).trans f26
  have d13 : xg 0 (xh_ui h1 51 sc fd).2.1 39 13 = nI 0 := (gx_o (by decide)).trans f13
  have g2 : fx rW rV h0 (xh_ui h1 51 sc fd) := fx_ui (fx_t (fx_w g0 (fun _ _ => rU_w) (fun _ _ z => z)) (fx_w g1 (fun c k z => (or_f (or_f (or_f z).2).2).1) (fun _ _ _ => rfl))) rfl
  generalize xh_ui h1 51 sc fd = h2 at hq d33 d26 d13 g2 ⊢
  refine xq_n 198 [0] [(0, .ref 39)] [] (xh_ui h2 52 (xg 0 h2.2.1 39 33).toNatClampNeg (xg 0 h2.2.1 39 3)) [] 9 hq rfl trivial (fun _ => ?_)
  rw [d33, show (nI sc).toNatClampNeg = sc from nI_clamp (by omega)]
  have hq : a_rq a_tb (xh_ui h2 52 sc (xg 0 h2.2.1 39 3)) := a_rq_ui hq
  have c33 : xg 0 (xh_ui h2 52 sc (xg 0 h2.2.1 39 3)).2.1 39 33 = nI sc := (gx_o (by decide)).trans d33
  have c26 : xg 0 (xh_ui h2 52 sc (xg 0 h2.2.1 39 3)).2.1 39 26 = nI m := (gx_o (by decide)).trans d26
  have c13 : xg 0 (xh_ui h2 52 sc (xg 0 h2.2.1 39 3)).2.1 39 13 = nI 0 := (gx_o (by decide)).trans d13
  have g3 : fx rW rV h0 (xh_ui h2 52 sc (xg 0 h2.2.1 39 3)) := fx_ui g2 rfl
  generalize xh_ui h2 52 sc (xg 0 h2.2.1 39 3) = h3 at hq c33 c26 c13 g3 ⊢
  refine xq_n 212 [] [] [.int (xg 0 (xh_ui h3 39 33 ((xg 0 h3.2.1 39 33) + (Int32.ofInt 1))).2.1 39 26)] (xh_ui h3 39 33 ((xg 0 h3.2.1 39 33) + (Int32.ofInt 1))) [] 11 hq rfl trivial (fun _ => ?_)
  rw [gx_k (by decide), c26, c33, show nI sc + Int32.ofInt 1 = nI (sc + 1) from nI_1 _]
  refine xq_ret rfl rfl rfl ⟨fx_ui g3 rfl, fun _ e => ?_, fun _ _ e => (by cases e)⟩
  cases e
  exact ⟨rfl, gx_s, (gx_k (by decide)).trans c13⟩
set_option maxRecDepth 100000 in
set_option maxHeartbeats 4000000 in
theorem st_bad {f sc k pl : Nat} {fd : Int32} {h0 h : xh_H} (hq : a_rq a_tb h) (g0 : fx rU rV h0 h) (e33 : xg 0 h.2.1 39 33 = nI sc) (e13 : xg 0 h.2.1 39 13 = nI k) (e14 : xg 0 h.2.1 39 14 = nI pl) : xq f xi_X10_statute xmi_X10_statute 132 [(0, .ref 39), (1, .int fd)] [] h (st_Q h0 sc fd (.inr (k, pl))) := by
  refine xq_n 138 [] [] [.int ((Int32.ofInt (-1)) - (xg 0 h.2.1 39 14))] h [] 6 hq rfl trivial (fun hq => ?_)
  rw [e14]
  refine xq_ret rfl rfl rfl ⟨fx_w g0 (fun _ _ => rU_w) (fun _ _ z => z), fun _ e => (by cases e), fun _ _ e => ?_⟩
  cases e
  exact ⟨rfl, e33, e13⟩
set_option maxRecDepth 100000 in
set_option maxHeartbeats 4000000 in
theorem st_fin {f sc p o : Nat} {fd : Int32} {h0 h : xh_H} {r : Sum Nat (Nat × Nat)} (hF : Fin_ T n mem p o nn NW r) (r0 : rq0 h T n mem nn NW p o) (hq : a_rq a_tb h) (g0 : fx rU rV h0 h) (e33 : xg 0 h.2.1 39 33 = nI sc) (sc8 : sc < 8) : xq f xi_X10_statute xmi_X10_statute 85 [(0, .ref 39), (1, .int fd)] [] h (st_Q h0 sc fd r) := by
  have hT : ∀ k, k < n → T k < 256 := fun k hk' => (r0.1.2.2 k hk').1
  unfold Fin_ at hF
  refine xq_n 86 [0, 1] [(0, .ref 39), (1, .int fd)] [.ref 39] h [] 3 hq rfl trivial (fun hq => ?_)
  refine xq_run hq rfl rfl (rw1_q hT r0.2.1 hq) ?_
  rintro v h1 ⟨rfl, rfl⟩
  cases b : ky T n p 1 with
  | false =>
    rw [if_pos b] at hF
    subst hF
    refine xq_n 94 [0, 1] [(0, .ref 39), (1, .int fd)] [.int (Int32.ofInt 1), .ref 39] h [false] 5 hq rfl ⟨rfl, trivial⟩ (fun hq => ?_)
    refine xq_run hq rfl rfl (bad_q (k := 1) hT r0.2.1 hq) ?_
    rintro v h2 ⟨rfl, g2, f2, l2⟩
    have hq := fx_q g2 hq
    rw [show (if rkk T n p = 1 then 1 else 1) = 1 by split <;> rfl] at f2
    refine xq_n 132 [0, 1] [(0, .ref 39), (1, .int fd)] [] h2 [true, true] 8 hq rfl ⟨rfl, by decide, trivial⟩ (fun hq => ?_)
    exact st_bad hq (fx_t g0 (fx_w g2 (fun _ _ z => bS_r (rS_t (rT_u z))) (fun _ _ _ => rfl))) ((fx_i g2 rfl).trans e33) f2 l2
  | true =>
    rw [if_neg (by rw [b]; decide)] at hF
    obtain ⟨q, hR, hq2⟩ := hF
    have nz : tkk T n p ≠ 0 := by have := (of_decide_eq_true b).1; omega
    refine xq_n 111 [0, 1] [(0, .ref 39), (1, .int fd)] [.ref 39] h [true, false] 9 hq rfl ⟨rfl, by decide, trivial⟩ (fun hq => ?_)
    refine xq_run hq rfl rfl (rrl_q hR r0 nz hq) ?_
    rintro v h2 ⟨g2, q1, q2⟩
    have hq := fx_q g2 hq
    have g3 : fx rU rV h0 h2 := fx_t g0 (fx_w g2 (fun _ _ => rT_u) (fun _ _ => gL_v))
    have f33 : xg 0 h2.2.1 39 33 = nI sc := (fx_i g2 rfl).trans e33
    rcases hq2 with ⟨k, pl, rfl, rfl⟩ | ⟨p', o', rfl, rfl⟩
    · obtain ⟨rfl, f1, f2⟩ := q2 _ _ rfl
      refine xq_n 132 [0, 1] [(0, .ref 39), (1, .int fd)] [] h2 [true] 3 hq rfl ⟨rfl, trivial⟩ (fun hq => ?_)
      exact st_bad hq g3 f33 f1 f2
    · obtain ⟨rfl, s1, s2, s3, s4, s5, s6, s7, s8⟩ := q1 _ _ rfl
      have rb := (rkk_k (T := T) (n := n) (p := p')).1
      by_cases hz : rkk T n p' = 0
      · rw [if_pos hz]
        refine xq_n 139 [0, 1] [(0, .ref 39), (1, .int fd)] [] h2 [false, true] 6 hq rfl ⟨rfl, (show xe_c .eq (xg 0 h2.2.1 39 9) 0 = true by rw [s2.2.1, hz]; rfl), trivial⟩ (fun hq => ?_)
        exact st_ok hq g3 f33 sc8 s5.1 s8
      · rw [if_neg hz]
        refine xq_n 126 [0, 1] [(0, .ref 39), (1, .int fd)] [.int (Int32.ofInt 1), .ref 39] h2 [false, false] 8 hq rfl ⟨rfl, (show xe_c .eq (xg 0 h2.2.1 39 9) 0 = false by rw [s2.2.1]; exact xeq_f (by rw [nI_toInt (by omega)]; show ((rkk T n p' : Nat) : Int) ≠ 0; omega)), trivial⟩ (fun hq => ?_)
        refine xq_run hq rfl rfl (bad_q (k := 1) hT s2 hq) ?_
        rintro v h3 ⟨rfl, g4, f4, l4⟩
        have hq := fx_q g4 hq
        rw [show (if rkk T n p' = 1 then 1 else 1) = 1 by split <;> rfl] at f4
        refine xq_n 132 [0, 1] [(0, .ref 39), (1, .int fd)] [] h3 [false] 3 hq rfl ⟨rfl, trivial⟩ (fun hq => ?_)
        exact st_bad hq (fx_t g3 (fx_w g4 (fun _ _ z => bS_r (rS_t (rT_u z))) (fun _ _ _ => rfl))) ((fx_i g4 rfl).trans f33) f4 l4
set_option maxRecDepth 100000 in
set_option maxHeartbeats 4000000 in
theorem st_64 {sc : Nat} {fd : Int32} {h0 : xh_H} {r : Sum Nat (Nat × Nat)} (sc8 : sc < 8) : ∀ (j p o nn : Nat) (NW : Nat → Nat) (f : Nat) (h : xh_H), Tx T n mem j p o nn NW r → rq0 h T n mem nn NW p o → a_rq a_tb h → fx rU rV h0 h → xg 0 h.2.1 39 33 = nI sc → xq f xi_X10_statute xmi_X10_statute 64 [(0, .ref 39), (1, .int fd)] [] h (st_Q h0 sc fd r) := by
  intro j
  induction j with
  | zero =>
    intro p o nn NW f h hX r0 hq g0 e33
    have hT : ∀ k, k < n → T k < 256 := fun k hk' => (r0.1.2.2 k hk').1
    refine xq_n 65 [0, 1] [(0, .ref 39), (1, .int fd)] [.ref 39] h [] 3 hq rfl trivial (fun hq => ?_)
    refine xq_run hq rfl rfl (rw0_q hT r0.2.1 hq) ?_
    rintro v h1 ⟨rfl, rfl⟩
    rw [hX.1]
    refine xq_n 85 [0, 1] [(0, .ref 39), (1, .int fd)] [] h [true] 3 hq rfl ⟨rfl, trivial⟩ (fun hq => ?_)
    exact st_fin hX.2 r0 hq g0 e33 sc8
  | succ j ih =>
    intro p o nn NW f h hX r0 hq g0 e33
    have hT : ∀ k, k < n → T k < 256 := fun k hk' => (r0.1.2.2 k hk').1
    obtain ⟨hb, b, hB, hb2⟩ := hX
    have nz : tkk T n p ≠ 0 := by have := (of_decide_eq_true hb).1; omega
    refine xq_n 65 [0, 1] [(0, .ref 39), (1, .int fd)] [.ref 39] h [] 3 hq rfl trivial (fun hq => ?_)
    refine xq_run hq rfl rfl (rw0_q hT r0.2.1 hq) ?_
    rintro v h1 ⟨rfl, rfl⟩
    rw [hb]
    refine xq_n 72 [0, 1] [(0, .ref 39), (1, .int fd)] [.ref 39] h [false] 4 hq rfl ⟨rfl, trivial⟩ (fun hq => ?_)
    refine xq_run hq rfl rfl (rbd_q hB r0 nz hq) ?_
    rintro v h2 ⟨g2, q1, q2⟩
    have hq := fx_q g2 hq
    have f33 : xg 0 h2.2.1 39 33 = nI sc := (fx_i g2 rfl).trans e33
    rcases hb2 with ⟨k, pl, rfl, rfl⟩ | ⟨p', o', w, rfl, hX2⟩
    · obtain ⟨rfl, f1, f2⟩ := q2 _ _ rfl
      refine xq_n 84 [] [] [.int ((Int32.ofInt (-1)) - (xg 0 h2.2.1 39 14))] h2 [false] 7 hq rfl ⟨rfl, trivial⟩ (fun hq => ?_)
      rw [f2]
      refine xq_ret rfl rfl rfl ⟨fx_w (fx_t g0 g2) (fun _ _ => rU_w) (fun _ _ z => z), fun _ e => (by cases e), fun _ _ e => ?_⟩
      cases e
      exact ⟨rfl, f33, f1⟩
    · obtain ⟨rfl, r1⟩ := q1 _ _ _ rfl
      refine xq_n 64 [0, 1] [(0, .ref 39), (1, .int fd)] [] h2 [true] 3 hq rfl ⟨rfl, trivial⟩ (fun hq => ?_)
      exact ih _ _ _ _ f h2 hX2 r1 hq (fx_t g0 g2) f33
end XRK
end
section
section XRL2
/-- what reading changes in the class -/
def cS (c k : Nat) : Bool := (Nat.beq c 8 && Nat.ble 2 k) || ((Nat.beq c 3 && (Nat.beq k 5 || (Nat.beq k 6 || (Nat.beq k 8 || Nat.beq k 9)))) || ((Nat.beq c 4 && Nat.beq k 3) || (Nat.beq c 5 || Nat.beq c 6)))
theorem sS_c {c k : Nat} (h : cS c k = false) : sS c k = false := (or_f h).1
/-- the names that were told: where they stand -/
def cn (h : xh_H) (T : Nat → Nat) (n nn : Nat) (NM : Nat → Nat × Nat) : Prop := xg 0 h.2.1 3 7 = nI nn ∧ nn ≤ 16 ∧ ∀ k, k < nn → xg 0 h.2.1 9 k = nI (NM k).1 ∧ xg 0 h.2.1 10 k = nI (NM k).2 ∧ (NM k).1 ≤ (NM k).2 ∧ (NM k).2 ≤ n ∧ ∀ j, j < (NM k).2 - (NM k).1 → 97 ≤ T ((NM k).1 + j) ∧ T ((NM k).1 + j) ≤ 122
def cr (h : xh_H) (T : Nat → Nat) (n mem nn : Nat) (NM : Nat → Nat × Nat) (p o d : Nat) : Prop := ct h T n ∧ tok h T n p ∧ xg 0 h.2.1 8 1 = nI (min n 600) ∧ xg 0 h.2.1 3 4 = nI mem ∧ mem ≤ 12 ∧ xg 0 h.2.1 3 5 = nI o ∧ o ≤ 121 ∧ xg 0 h.2.1 3 6 = nI d ∧ d ≤ 13 ∧ cn h T n nn NM ∧ xg 0 h.2.1 3 8 = nI 0
/-- the words' values -/
def nmW (T : Nat → Nat) (NM : Nat → Nat × Nat) (k : Nat) : Nat := wv T (NM k).1 ((NM k).2 - (NM k).1)
theorem cn_f {S L : Nat → Nat → Bool} {h h' : xh_H} {T : Nat → Nat} {n nn : Nat} {NM : Nat → Nat × Nat} (c : cn h T n nn NM) (g : fx S L h h') (e1 : S 3 7 = false) (e2 : ∀ k, S 9 k = false) (e3 : ∀ k, S 10 k = false) : cn h' T n nn NM := ⟨by rw [fx_i g e1]; exact c.1, c.2.1, fun k hk' => by rw [fx_i g (e2 k), fx_i g (e3 k)]; exact c.2.2 k hk'⟩
theorem tok_f {S L : Nat → Nat → Bool} {h h' : xh_H} {T : Nat → Nat} {n p : Nat} (t : tok h T n p) (g : fx S L h h') (e : ∀ k, S 8 k = false) : tok h' T n p := by
  unfold tok
  rw [fx_i g (e 3), fx_i g (e 4), fx_i g (e 2), fx_i g (e 5), fx_i g (e 6)]
  exact t
/-- what a small method of the class's reader leaves -/
def co_Q (h : xh_H) (T : Nat → Nat) (n mem nn : Nat) (NM : Nat → Nat × Nat) (r : Sum (Nat × Nat × Nat) (Nat × Nat)) (v : Option Value) (h' : xh_H) : Prop := fx cS fN h h' ∧ (∀ p' o' d', r = .inl (p', o', d') → v = some (.int 1) ∧ cr h' T n mem nn NM p' o' d') ∧ ∀ k pl, r = .inr (k, pl) → v = some (.int 0) ∧ xg 0 h'.2.1 3 8 = nI k ∧ xg 0 h'.2.1 3 9 = nI pl ∧ ∃ e, e ≤ 640 ∧ xg 0 h'.2.1 8 2 = nI e
variable {T : Nat → Nat} {n mem nn : Nat} {NM : Nat → Nat × Nat}
theorem co_l {h h' : xh_H} {r : Sum (Nat × Nat × Nat) (Nat × Nat)} {v : Option Value} {p' o' d' : Nat} (er : r = .inl (p', o', d')) (g : fx cS fN h h') (hv : v = some (.int 1)) (hr : cr h' T n mem nn NM p' o' d') : co_Q h T n mem nn NM r v h' := by
  subst er
  refine ⟨g, fun _ _ _ e => ?_, fun _ _ e => (by cases e)⟩
  cases e
  exact ⟨hv, hr⟩
theorem co_r {h h' : xh_H} {r : Sum (Nat × Nat × Nat) (Nat × Nat)} {v : Option Value} {k pl : Nat} (er : r = .inr (k, pl)) (g : fx cS fN h h') (hv : v = some (.int 0)) (h1 : xg 0 h'.2.1 3 8 = nI k) (h2 : xg 0 h'.2.1 3 9 = nI pl) (h3 : ∃ e, e ≤ 640 ∧ xg 0 h'.2.1 8 2 = nI e) : co_Q h T n mem nn NM r v h' := by
  subst er
  refine ⟨g, fun _ _ _ e => (by cases e), fun _ _ e => ?_⟩
  cases e
  exact ⟨hv, h1, h2, h3⟩
def fS (c k : Nat) : Bool := Nat.beq c 3 && (Nat.beq k 8 || Nat.beq k 9)
def aS_ (c k : Nat) : Bool := (Nat.beq c 4 && Nat.beq k 3) || (Nat.beq c 5 || Nat.beq c 6)
theorem fS_c {c k : Nat} (h : cS c k = false) : fS c k = false := by
  unfold cS at h
  unfold fS
  have h1 := (or_f (or_f h).2).1
  cases h2 : Nat.beq c 3 with
  | false => rfl
  | true =>
    rw [h2] at h1
    have h1 : (Nat.beq k 5 || (Nat.beq k 6 || (Nat.beq k 8 || Nat.beq k 9))) = false := h1
    exact (or_f (or_f h1).2).2
theorem aS_c {c k : Nat} (h : cS c k = false) : aS_ c k = false := (or_f (or_f h).2).2
def fl_Q (h : xh_H) (k pl : Nat) (v : Option Value) (h' : xh_H) : Prop := v = some (.int 0) ∧ fx fS fN h h' ∧ xg 0 h'.2.1 3 8 = nI k ∧ xg 0 h'.2.1 3 9 = nI pl
set_option maxRecDepth 100000 in
set_option maxHeartbeats 4000000 in
theorem fail_q {f k pl : Nat} {h : xh_H} (hq : a_rq a_tb h) : xq f xi_X4_fail xmi_X4_fail 0 [(0, .ref 3), (1, .int (nI k)), (2, .int (nI pl))] [] h (fl_Q h k pl) := by
  refine xq_n 11 [] [] [.int (Int32.ofInt 0)] (xh_ui (xh_ui h 3 8 (nI k)) 3 9 (nI pl)) [] 9 hq rfl trivial (fun _ => ?_)
  have hq : a_rq a_tb (xh_ui (xh_ui h 3 8 (nI k)) 3 9 (nI pl)) := a_rq_ui (a_rq_ui hq)
  exact xq_ret rfl rfl rfl ⟨rfl, fx_ui (fx_ui (fx_0) rfl) rfl, (gx_k (by decide)).trans (gx_s), gx_s⟩
set_option maxRecDepth 100000 in
set_option maxHeartbeats 4000000 in
theorem add_q {f : Nat} {x y : Int32} {h : xh_H} (hq : a_rq a_tb h) : xq f xi_X3_add xmi_X3_add 0 [(0, .ref 4), (1, .int x), (2, .int y)] [] h (fun v h' => v = none ∧ fx aS_ fN h h') := by
  cases c1 : xe_c .ge (xg 0 h.2.1 4 3) 400 with
  | true =>
    refine xq_n 40 [] [] [] h [true] 6 hq rfl ⟨c1, trivial⟩ (fun hq => ?_)
    exact xq_ret rfl rfl rfl ⟨rfl, fx_0⟩
  | false =>
    refine xq_n 40 [] [] [] (xh_ui (xh_ui (xh_ui h 5 ((xg 0 h.2.1 4 3).toNatClampNeg) x) 6 ((xg 0 (xh_ui h 5 ((xg 0 h.2.1 4 3).toNatClampNeg) x).2.1 4 3).toNatClampNeg) y) 4 3 ((xg 0 (xh_ui (xh_ui h 5 ((xg 0 h.2.1 4 3).toNatClampNeg) x) 6 ((xg 0 (xh_ui h 5 ((xg 0 h.2.1 4 3).toNatClampNeg) x).2.1 4 3).toNatClampNeg) y).2.1 4 3) + (Int32.ofInt 1))) [false] 24 hq rfl ⟨c1, trivial⟩ (fun _ => ?_)
    rw [show (xg 0 (xh_ui (xh_ui h 5 ((xg 0 h.2.1 4 3).toNatClampNeg) x) 6 ((xg 0 (xh_ui h 5 ((xg 0 h.2.1 4 3).toNatClampNeg) x).2.1 4 3).toNatClampNeg) y).2.1 4 3) = (xg 0 h.2.1 4 3) from (gx_o (by decide)).trans (gx_o (by decide))]
    rw [show (xg 0 (xh_ui h 5 ((xg 0 h.2.1 4 3).toNatClampNeg) x).2.1 4 3) = (xg 0 h.2.1 4 3) from gx_o (by decide)]
    have hq : a_rq a_tb (xh_ui (xh_ui (xh_ui h 5 ((xg 0 h.2.1 4 3).toNatClampNeg) x) 6 ((xg 0 h.2.1 4 3).toNatClampNeg) y) 4 3 ((xg 0 h.2.1 4 3) + (Int32.ofInt 1))) := a_rq_ui (a_rq_ui (a_rq_ui hq))
    exact xq_ret rfl rfl rfl ⟨rfl, fx_ui (fx_ui (fx_ui (fx_0) rfl) rfl) rfl⟩
def kW (T : Nat → Nat) (n p o d i : Nat) : Sum (Nat × Nat × Nat) (Nat × Nat) := if ky T n p i = false then .inr (1, tks T n p) else .inl (tke T n p, o, d)
def kS (T : Nat → Nat) (n p o d c : Nat) : Sum (Nat × Nat × Nat) (Nat × Nat) := if tkk T n p ≠ c then .inr (1, tks T n p) else .inl (tke T n p, o, d)
def kO (T : Nat → Nat) (n p o d c : Nat) : Sum (Nat × Nat × Nat) (Nat × Nat) := if tkk T n p ≠ c then .inr (1, tks T n p) else if 12 ≤ d then .inr (4, tks T n p) else .inl (tke T n p, o, d + 1)
def kC (p o d st : Nat) : Sum (Nat × Nat × Nat) (Nat × Nat) := if 120 ≤ o then .inr (4, st) else .inl (p, o + 1, d)
def kM (T : Nat → Nat) (n mem p o d : Nat) : Sum (Nat × Nat × Nat) (Nat × Nat) := if mem ≤ T (tks T n p) - 97 then .inr (2, tks T n p) else .inl (p, o, d)
def kN (T : Nat → Nat) (n nn : Nat) (NW : Nat → Nat) (p o d : Nat) : Sum (Nat × Nat × Nat) (Nat × Nat) := if nmt T n p = false then .inr (1, tks T n p) else if hasn nn NW (tkw T n p) = false then .inr (3, tks T n p) else .inl (p, o, d)
set_option maxRecDepth 100000 in
set_option maxHeartbeats 4000000 in
theorem tw1_q {f p o d : Nat} {h : xh_H} (c0 : cr h T n mem nn NM p o d) (hq : a_rq a_tb h) : xq f xi_X4_takeWord xmi_X4_takeWord 0 [(0, .ref 3), (1, .float 3)] [] h (co_Q h T n mem nn NM (kW T n p o d 1)) := by
  have hT : ∀ k, k < n → T k < 256 := fun k hk' => (c0.1.2.2 k hk').1
  have tk := c0.2.1
  have kb := tkk_lt (T := T) (n := n) (p := p) hT
  have n6 := c0.1.2.1
  have o121 := c0.2.2.2.2.2.2.1
  have d13 := c0.2.2.2.2.2.2.2.2.1
  have s6 := tks_le (T := T) (n := n) (p := p)
  have mm := c0.2.2.2.2.1
  have n16 := c0.2.2.2.2.2.2.2.2.2.1.2.1
  refine xq_n 5 [0, 1] [(0, .ref 3), (1, .float 3)] [.float 3, .ref 8] h [] 5 hq rfl trivial (fun hq => ?_)
  refine xq_run hq rfl rfl (iw1_q (c0.1) (tk) hq) ?_
  rintro v1 h_v1 ⟨rfl, rfl⟩
  cases b2 : (ky T n p 1) with
  | true =>
    have db2 := of_decide_eq_true b2
    refine xq_n 28 [0, 1] [(0, .ref 3), (1, .float 3)] [.ref 8] h [true] 5 hq rfl ⟨rfl, trivial⟩ (fun hq => ?_)
    have nz3 : tkk T n p ≠ 0 := by omega
    have le3 := tke_le nz3
    refine xq_run hq rfl rfl (adv_q hq hT (c0.1) (c0.2.2.1) ((tk.2.2.1 (by omega)).1) (by omega)) ?_
    rintro v3 h3 ⟨rfl, g3, t3⟩
    have hq := fx_q g3 hq
    have kb3 := tkk_lt (T := T) (n := n) (p := tke T n p) hT
    have s63 := tks_le (T := T) (n := n) (p := tke T n p)
    refine xq_n 32 [] [] [.int (Int32.ofInt 1)] h3 [] 3 hq rfl trivial (fun hq => ?_)
    have er : kW T n p o d 1 = .inl (tke T n p, o, d) := by
      unfold kW
      repeat (first | rw [if_pos (by omega)] | rw [if_neg (by omega)] | rw [if_pos b2] | rw [if_neg (by rw [b2]; decide)])
      try rfl
    exact xq_ret rfl rfl rfl (co_l er (fx_t (fx_0) (fx_w g3 (fun _ _ => sS_c) (fun _ _ z => z))) rfl ⟨ct_f (S := cS) (L := fN) c0.1 (fx_t (fx_0) (fx_w g3 (fun _ _ => sS_c) (fun _ _ z => z))) rfl (fun _ => rfl), t3, (fx_i g3 rfl).trans (c0.2.2.1), (fx_i g3 rfl).trans (c0.2.2.2.1), c0.2.2.2.2.1, (fx_i g3 rfl).trans (c0.2.2.2.2.2.1), by omega, (fx_i g3 rfl).trans (c0.2.2.2.2.2.2.2.1), by omega, cn_f (S := cS) (L := fN) c0.2.2.2.2.2.2.2.2.2.1 (fx_t (fx_0) (fx_w g3 (fun _ _ => sS_c) (fun _ _ z => z))) rfl (fun _ => rfl) (fun _ => rfl), (fx_i g3 rfl).trans (c0.2.2.2.2.2.2.2.2.2.2)⟩)
  | false =>
    have db2 := of_decide_eq_false b2
    refine xq_n 20 [0, 1] [(0, .ref 3), (1, .float 3)] [.int (xg 0 h.2.1 8 4), .int (Int32.ofInt 1), .ref 3] h [false] 8 hq rfl ⟨rfl, trivial⟩ (fun hq => ?_)
    rw [show (xg 0 h.2.1 8 4) = (nI (tks T n p)) from tk.2.1]
    refine xq_run hq rfl rfl (fail_q (k := 1) (pl := (tks T n p)) hq) ?_
    rintro v4 h4 ⟨rfl, g4, f4, l4⟩
    have hq := fx_q g4 hq
    have er : kW T n p o d 1 = .inr (1, tks T n p) := by
      unfold kW
      repeat (first | rw [if_pos (by omega)] | rw [if_neg (by omega)] | rw [if_pos b2] | rw [if_neg (by rw [b2]; decide)])
      try rfl
    exact xq_ret rfl rfl rfl (co_r er (fx_t (fx_0) (fx_w g4 (fun _ _ => fS_c) (fun _ _ z => z))) rfl (f4) (l4) (tok_f (tk) g4 (fun _ => rfl)).2.2.2.2)
set_option maxRecDepth 100000 in
set_option maxHeartbeats 4000000 in
theorem tw4_q {f p o d : Nat} {h : xh_H} (c0 : cr h T n mem nn NM p o d) (hq : a_rq a_tb h) : xq f xi_X4_takeWord xmi_X4_takeWord 0 [(0, .ref 3), (1, .float 6)] [] h (co_Q h T n mem nn NM (kW T n p o d 4)) := by
  have hT : ∀ k, k < n → T k < 256 := fun k hk' => (c0.1.2.2 k hk').1
  have tk := c0.2.1
  have kb := tkk_lt (T := T) (n := n) (p := p) hT
  have n6 := c0.1.2.1
  have o121 := c0.2.2.2.2.2.2.1
  have d13 := c0.2.2.2.2.2.2.2.2.1
  have s6 := tks_le (T := T) (n := n) (p := p)
  have mm := c0.2.2.2.2.1
  have n16 := c0.2.2.2.2.2.2.2.2.2.1.2.1
  refine xq_n 5 [0, 1] [(0, .ref 3), (1, .float 6)] [.float 6, .ref 8] h [] 5 hq rfl trivial (fun hq => ?_)
  refine xq_run hq rfl rfl (iw4_q (c0.1) (tk) hq) ?_
  rintro v1 h_v1 ⟨rfl, rfl⟩
  cases b2 : (ky T n p 4) with
  | true =>
    have db2 := of_decide_eq_true b2
    refine xq_n 28 [0, 1] [(0, .ref 3), (1, .float 6)] [.ref 8] h [true] 5 hq rfl ⟨rfl, trivial⟩ (fun hq => ?_)
    have nz3 : tkk T n p ≠ 0 := by omega
    have le3 := tke_le nz3
    refine xq_run hq rfl rfl (adv_q hq hT (c0.1) (c0.2.2.1) ((tk.2.2.1 (by omega)).1) (by omega)) ?_
    rintro v3 h3 ⟨rfl, g3, t3⟩
    have hq := fx_q g3 hq
    have kb3 := tkk_lt (T := T) (n := n) (p := tke T n p) hT
    have s63 := tks_le (T := T) (n := n) (p := tke T n p)
    refine xq_n 32 [] [] [.int (Int32.ofInt 1)] h3 [] 3 hq rfl trivial (fun hq => ?_)
    have er : kW T n p o d 4 = .inl (tke T n p, o, d) := by
      unfold kW
      repeat (first | rw [if_pos (by omega)] | rw [if_neg (by omega)] | rw [if_pos b2] | rw [if_neg (by rw [b2]; decide)])
      try rfl
    exact xq_ret rfl rfl rfl (co_l er (fx_t (fx_0) (fx_w g3 (fun _ _ => sS_c) (fun _ _ z => z))) rfl ⟨ct_f (S := cS) (L := fN) c0.1 (fx_t (fx_0) (fx_w g3 (fun _ _ => sS_c) (fun _ _ z => z))) rfl (fun _ => rfl), t3, (fx_i g3 rfl).trans (c0.2.2.1), (fx_i g3 rfl).trans (c0.2.2.2.1), c0.2.2.2.2.1, (fx_i g3 rfl).trans (c0.2.2.2.2.2.1), by omega, (fx_i g3 rfl).trans (c0.2.2.2.2.2.2.2.1), by omega, cn_f (S := cS) (L := fN) c0.2.2.2.2.2.2.2.2.2.1 (fx_t (fx_0) (fx_w g3 (fun _ _ => sS_c) (fun _ _ z => z))) rfl (fun _ => rfl) (fun _ => rfl), (fx_i g3 rfl).trans (c0.2.2.2.2.2.2.2.2.2.2)⟩)
  | false =>
    have db2 := of_decide_eq_false b2
    refine xq_n 20 [0, 1] [(0, .ref 3), (1, .float 6)] [.int (xg 0 h.2.1 8 4), .int (Int32.ofInt 1), .ref 3] h [false] 8 hq rfl ⟨rfl, trivial⟩ (fun hq => ?_)
    rw [show (xg 0 h.2.1 8 4) = (nI (tks T n p)) from tk.2.1]
    refine xq_run hq rfl rfl (fail_q (k := 1) (pl := (tks T n p)) hq) ?_
    rintro v4 h4 ⟨rfl, g4, f4, l4⟩
    have hq := fx_q g4 hq
    have er : kW T n p o d 4 = .inr (1, tks T n p) := by
      unfold kW
      repeat (first | rw [if_pos (by omega)] | rw [if_neg (by omega)] | rw [if_pos b2] | rw [if_neg (by rw [b2]; decide)])
      try rfl
    exact xq_ret rfl rfl rfl (co_r er (fx_t (fx_0) (fx_w g4 (fun _ _ => fS_c) (fun _ _ z => z))) rfl (f4) (l4) (tok_f (tk) g4 (fun _ => rfl)).2.2.2.2)
set_option maxRecDepth 100000 in
set_option maxHeartbeats 4000000 in
theorem ts_q {f p o d c : Nat} {h : xh_H} (c4 : 40 ≤ c) (c5 : c < 256) (c0 : cr h T n mem nn NM p o d) (hq : a_rq a_tb h) : xq f xi_X4_takeSign xmi_X4_takeSign 0 [(0, .ref 3), (1, .int (nI c))] [] h (co_Q h T n mem nn NM (kS T n p o d c)) := by
  have hT : ∀ k, k < n → T k < 256 := fun k hk' => (c0.1.2.2 k hk').1
  have tk := c0.2.1
  have kb := tkk_lt (T := T) (n := n) (p := p) hT
  have n6 := c0.1.2.1
  have o121 := c0.2.2.2.2.2.2.1
  have d13 := c0.2.2.2.2.2.2.2.2.1
  have s6 := tks_le (T := T) (n := n) (p := p)
  have mm := c0.2.2.2.2.1
  have n16 := c0.2.2.2.2.2.2.2.2.2.1.2.1
  cases c1 : xe_c .eq (nI (tkk T n p)) (nI c) with
  | true =>
    have z1 : (tkk T n p) = c := nq_eqt (a := (tkk T n p)) (b := c) (by omega) (by omega) c1
    refine xq_n 28 [0, 1] [(0, .ref 3), (1, .int (nI c))] [.ref 8] h [true] 9 hq rfl ⟨(show xe_c .eq (xg 0 h.2.1 8 3) (nI c) = true by rw [show (xg 0 h.2.1 8 3) = (nI (tkk T n p)) from tk.1]; exact c1), trivial⟩ (fun hq => ?_)
    have nz2 : tkk T n p ≠ 0 := by omega
    have le2 := tke_le nz2
    refine xq_run hq rfl rfl (adv_q hq hT (c0.1) (c0.2.2.1) ((tk.2.2.1 (by omega)).1) (by omega)) ?_
    rintro v2 h2 ⟨rfl, g2, t2⟩
    have hq := fx_q g2 hq
    have kb2 := tkk_lt (T := T) (n := n) (p := tke T n p) hT
    have s62 := tks_le (T := T) (n := n) (p := tke T n p)
    refine xq_n 32 [] [] [.int (Int32.ofInt 1)] h2 [] 3 hq rfl trivial (fun hq => ?_)
    have er : kS T n p o d c = .inl (tke T n p, o, d) := by
      unfold kS
      repeat (first | rw [if_pos (by omega)] | rw [if_neg (by omega)])
      try rfl
    exact xq_ret rfl rfl rfl (co_l er (fx_t (fx_0) (fx_w g2 (fun _ _ => sS_c) (fun _ _ z => z))) rfl ⟨ct_f (S := cS) (L := fN) c0.1 (fx_t (fx_0) (fx_w g2 (fun _ _ => sS_c) (fun _ _ z => z))) rfl (fun _ => rfl), t2, (fx_i g2 rfl).trans (c0.2.2.1), (fx_i g2 rfl).trans (c0.2.2.2.1), c0.2.2.2.2.1, (fx_i g2 rfl).trans (c0.2.2.2.2.2.1), by omega, (fx_i g2 rfl).trans (c0.2.2.2.2.2.2.2.1), by omega, cn_f (S := cS) (L := fN) c0.2.2.2.2.2.2.2.2.2.1 (fx_t (fx_0) (fx_w g2 (fun _ _ => sS_c) (fun _ _ z => z))) rfl (fun _ => rfl) (fun _ => rfl), (fx_i g2 rfl).trans (c0.2.2.2.2.2.2.2.2.2.2)⟩)
  | false =>
    have z1 : (tkk T n p) ≠ c := nq_eqf (a := (tkk T n p)) (b := c) (by omega) (by omega) c1
    refine xq_n 20 [0, 1] [(0, .ref 3), (1, .int (nI c))] [.int (xg 0 h.2.1 8 4), .int (Int32.ofInt 1), .ref 3] h [false] 12 hq rfl ⟨(show xe_c .eq (xg 0 h.2.1 8 3) (nI c) = false by rw [show (xg 0 h.2.1 8 3) = (nI (tkk T n p)) from tk.1]; exact c1), trivial⟩ (fun hq => ?_)
    rw [show (xg 0 h.2.1 8 4) = (nI (tks T n p)) from tk.2.1]
    refine xq_run hq rfl rfl (fail_q (k := 1) (pl := (tks T n p)) hq) ?_
    rintro v3 h3 ⟨rfl, g3, f3, l3⟩
    have hq := fx_q g3 hq
    have er : kS T n p o d c = .inr (1, tks T n p) := by
      unfold kS
      repeat (first | rw [if_pos (by omega)] | rw [if_neg (by omega)])
      try rfl
    exact xq_ret rfl rfl rfl (co_r er (fx_t (fx_0) (fx_w g3 (fun _ _ => fS_c) (fun _ _ z => z))) rfl (f3) (l3) (tok_f (tk) g3 (fun _ => rfl)).2.2.2.2)
set_option maxRecDepth 100000 in
set_option maxHeartbeats 4000000 in
theorem to_q {f p o d c : Nat} {h : xh_H} (c4 : 40 ≤ c) (c5 : c < 256) (c0 : cr h T n mem nn NM p o d) (hq : a_rq a_tb h) : xq f xi_X4_takeOpening xmi_X4_takeOpening 0 [(0, .ref 3), (1, .int (nI c))] [] h (co_Q h T n mem nn NM (kO T n p o d c)) := by
  have hT : ∀ k, k < n → T k < 256 := fun k hk' => (c0.1.2.2 k hk').1
  have tk := c0.2.1
  have kb := tkk_lt (T := T) (n := n) (p := p) hT
  have n6 := c0.1.2.1
  have o121 := c0.2.2.2.2.2.2.1
  have d13 := c0.2.2.2.2.2.2.2.2.1
  have s6 := tks_le (T := T) (n := n) (p := p)
  have mm := c0.2.2.2.2.1
  have n16 := c0.2.2.2.2.2.2.2.2.2.1.2.1
  cases c1 : xe_c .eq (nI (tkk T n p)) (nI c) with
  | true =>
    have z1 : (tkk T n p) = c := nq_eqt (a := (tkk T n p)) (b := c) (by omega) (by omega) c1
    cases c2 : xe_c .lt (nI d) 12 with
    | true =>
      have z2 : d < 12 := nq_ltt (a := d) (b := 12) (by omega) (by omega) c2
      refine xq_n 60 [0, 1] [(0, .ref 3), (1, .int (nI c))] [.ref 8] (xh_ui h 3 6 ((xg 0 h.2.1 3 6) + (Int32.ofInt 1))) [true, true] 19 hq rfl ⟨(show xe_c .eq (xg 0 h.2.1 8 3) (nI c) = true by rw [show (xg 0 h.2.1 8 3) = (nI (tkk T n p)) from tk.1]; exact c1), (show xe_c .lt (xg 0 h.2.1 3 6) 12 = true by rw [show (xg 0 h.2.1 3 6) = (nI d) from c0.2.2.2.2.2.2.2.1]; exact c2), trivial⟩ (fun _ => ?_)
      rw [show (xg 0 h.2.1 3 6) = (nI d) from c0.2.2.2.2.2.2.2.1]
      rw [show ((nI d) + (Int32.ofInt 1)) = nI (d + 1) from nI_1 _]
      have hq : a_rq a_tb (xh_ui h 3 6 (nI (d + 1))) := a_rq_ui hq
      have nz3 : tkk T n p ≠ 0 := by omega
      have le3 := tke_le nz3
      refine xq_run hq rfl rfl (adv_q hq hT (ct_f (S := cS) (L := fN) c0.1 (fx_ui (fx_0) rfl) rfl (fun _ => rfl)) ((gx_o (by decide)).trans (c0.2.2.1)) ((gx_o (by decide)).trans ((tk.2.2.1 (by omega)).1)) (by omega)) ?_
      rintro v3 h3 ⟨rfl, g3, t3⟩
      have hq := fx_q g3 hq
      have kb3 := tkk_lt (T := T) (n := n) (p := tke T n p) hT
      have s63 := tks_le (T := T) (n := n) (p := tke T n p)
      refine xq_n 64 [] [] [.int (Int32.ofInt 1)] h3 [] 3 hq rfl trivial (fun hq => ?_)
      have er : kO T n p o d c = .inl (tke T n p, o, (d + 1)) := by
        unfold kO
        repeat (first | rw [if_pos (by omega)] | rw [if_neg (by omega)])
        try rfl
      exact xq_ret rfl rfl rfl (co_l er (fx_t (fx_ui (fx_0) rfl) (fx_w g3 (fun _ _ => sS_c) (fun _ _ z => z))) rfl ⟨ct_f (S := cS) (L := fN) c0.1 (fx_t (fx_ui (fx_0) rfl) (fx_w g3 (fun _ _ => sS_c) (fun _ _ z => z))) rfl (fun _ => rfl), t3, (fx_i g3 rfl).trans ((gx_o (by decide)).trans (c0.2.2.1)), (fx_i g3 rfl).trans ((gx_k (by decide)).trans (c0.2.2.2.1)), c0.2.2.2.2.1, (fx_i g3 rfl).trans ((gx_k (by decide)).trans (c0.2.2.2.2.2.1)), by omega, (fx_i g3 rfl).trans (gx_s), by omega, cn_f (S := cS) (L := fN) c0.2.2.2.2.2.2.2.2.2.1 (fx_t (fx_ui (fx_0) rfl) (fx_w g3 (fun _ _ => sS_c) (fun _ _ z => z))) rfl (fun _ => rfl) (fun _ => rfl), (fx_i g3 rfl).trans ((gx_k (by decide)).trans (c0.2.2.2.2.2.2.2.2.2.2))⟩)
    | false =>
      have z2 : d ≥ 12 := nq_ltf (a := d) (b := 12) (by omega) (by omega) c2
      refine xq_n 42 [0, 1] [(0, .ref 3), (1, .int (nI c))] [.int (xg 0 h.2.1 8 4), .int (Int32.ofInt 4), .ref 3] h [true, false] 16 hq rfl ⟨(show xe_c .eq (xg 0 h.2.1 8 3) (nI c) = true by rw [show (xg 0 h.2.1 8 3) = (nI (tkk T n p)) from tk.1]; exact c1), (show xe_c .lt (xg 0 h.2.1 3 6) 12 = false by rw [show (xg 0 h.2.1 3 6) = (nI d) from c0.2.2.2.2.2.2.2.1]; exact c2), trivial⟩ (fun hq => ?_)
      rw [show (xg 0 h.2.1 8 4) = (nI (tks T n p)) from tk.2.1]
      refine xq_run hq rfl rfl (fail_q (k := 4) (pl := (tks T n p)) hq) ?_
      rintro v4 h4 ⟨rfl, g4, f4, l4⟩
      have hq := fx_q g4 hq
      have er : kO T n p o d c = .inr (4, tks T n p) := by
        unfold kO
        repeat (first | rw [if_pos (by omega)] | rw [if_neg (by omega)])
        try rfl
      exact xq_ret rfl rfl rfl (co_r er (fx_t (fx_0) (fx_w g4 (fun _ _ => fS_c) (fun _ _ z => z))) rfl (f4) (l4) (tok_f (tk) g4 (fun _ => rfl)).2.2.2.2)
  | false =>
    have z1 : (tkk T n p) ≠ c := nq_eqf (a := (tkk T n p)) (b := c) (by omega) (by omega) c1
    refine xq_n 20 [0, 1] [(0, .ref 3), (1, .int (nI c))] [.int (xg 0 h.2.1 8 4), .int (Int32.ofInt 1), .ref 3] h [false] 12 hq rfl ⟨(show xe_c .eq (xg 0 h.2.1 8 3) (nI c) = false by rw [show (xg 0 h.2.1 8 3) = (nI (tkk T n p)) from tk.1]; exact c1), trivial⟩ (fun hq => ?_)
    rw [show (xg 0 h.2.1 8 4) = (nI (tks T n p)) from tk.2.1]
    refine xq_run hq rfl rfl (fail_q (k := 1) (pl := (tks T n p)) hq) ?_
    rintro v5 h5 ⟨rfl, g5, f5, l5⟩
    have hq := fx_q g5 hq
    have er : kO T n p o d c = .inr (1, tks T n p) := by
      unfold kO
      repeat (first | rw [if_pos (by omega)] | rw [if_neg (by omega)])
      try rfl
    exact xq_ret rfl rfl rfl (co_r er (fx_t (fx_0) (fx_w g5 (fun _ _ => fS_c) (fun _ _ z => z))) rfl (f5) (l5) (tok_f (tk) g5 (fun _ => rfl)).2.2.2.2)
set_option maxRecDepth 100000 in
set_option maxHeartbeats 4000000 in
theorem co_q {f p o d st : Nat} {h : xh_H} (o6 : o ≤ 120) (c0 : cr h T n mem nn NM p o d) (hq : a_rq a_tb h) : xq f xi_X4_countOne xmi_X4_countOne 0 [(0, .ref 3), (1, .int (nI st))] [] h (co_Q h T n mem nn NM (kC p o d st)) := by
  have hT : ∀ k, k < n → T k < 256 := fun k hk' => (c0.1.2.2 k hk').1
  have tk := c0.2.1
  have kb := tkk_lt (T := T) (n := n) (p := p) hT
  have n6 := c0.1.2.1
  have o121 := c0.2.2.2.2.2.2.1
  have d13 := c0.2.2.2.2.2.2.2.2.1
  have s6 := tks_le (T := T) (n := n) (p := p)
  have mm := c0.2.2.2.2.1
  have n16 := c0.2.2.2.2.2.2.2.2.2.1.2.1
  cases c1 : xe_c .le (nI (o + 1)) 120 with
  | true =>
    have z1 : (o + 1) ≤ 120 := nq_let (a := (o + 1)) (b := 120) (by omega) (by omega) c1
    refine xq_n 33 [] [] [.int (Int32.ofInt 1)] (xh_ui h 3 5 ((xg 0 h.2.1 3 5) + (Int32.ofInt 1))) [true] 14 hq rfl ⟨(show xe_c .le (xg 0 (xh_ui h 3 5 ((xg 0 h.2.1 3 5) + (Int32.ofInt 1))).2.1 3 5) 120 = true by rw [show (xg 0 (xh_ui h 3 5 ((xg 0 h.2.1 3 5) + (Int32.ofInt 1))).2.1 3 5) = ((xg 0 h.2.1 3 5) + (Int32.ofInt 1)) from gx_s, show (xg 0 h.2.1 3 5) = (nI o) from c0.2.2.2.2.2.1, show ((nI o) + (Int32.ofInt 1)) = nI (o + 1) from nI_1 _]; exact c1), trivial⟩ (fun _ => ?_)
    rw [show (xg 0 h.2.1 3 5) = (nI o) from c0.2.2.2.2.2.1]
    rw [show ((nI o) + (Int32.ofInt 1)) = nI (o + 1) from nI_1 _]
    have hq : a_rq a_tb (xh_ui h 3 5 (nI (o + 1))) := a_rq_ui hq
    have er : kC p o d st = .inl (p, (o + 1), d) := by
      unfold kC
      repeat (first | rw [if_pos (by omega)] | rw [if_neg (by omega)])
      try rfl
    exact xq_ret rfl rfl rfl (co_l er (fx_ui (fx_0) rfl) rfl ⟨ct_f (S := cS) (L := fN) c0.1 (fx_ui (fx_0) rfl) rfl (fun _ => rfl), tok_f (S := fun c k => Nat.beq c 3) (L := fN) (tk) (fx_ui fx_0 rfl) (fun _ => rfl), (gx_o (by decide)).trans (c0.2.2.1), (gx_k (by decide)).trans (c0.2.2.2.1), c0.2.2.2.2.1, gx_s, by omega, (gx_k (by decide)).trans (c0.2.2.2.2.2.2.2.1), by omega, cn_f (S := cS) (L := fN) c0.2.2.2.2.2.2.2.2.2.1 (fx_ui (fx_0) rfl) rfl (fun _ => rfl) (fun _ => rfl), (gx_k (by decide)).trans (c0.2.2.2.2.2.2.2.2.2.2)⟩)
  | false =>
    have z1 : (o + 1) > 120 := nq_lef (a := (o + 1)) (b := 120) (by omega) (by omega) c1
    refine xq_n 22 [0, 1] [(0, .ref 3), (1, .int (nI st))] [.int (nI st), .int (Int32.ofInt 4), .ref 3] (xh_ui h 3 5 ((xg 0 h.2.1 3 5) + (Int32.ofInt 1))) [false] 15 hq rfl ⟨(show xe_c .le (xg 0 (xh_ui h 3 5 ((xg 0 h.2.1 3 5) + (Int32.ofInt 1))).2.1 3 5) 120 = false by rw [show (xg 0 (xh_ui h 3 5 ((xg 0 h.2.1 3 5) + (Int32.ofInt 1))).2.1 3 5) = ((xg 0 h.2.1 3 5) + (Int32.ofInt 1)) from gx_s, show (xg 0 h.2.1 3 5) = (nI o) from c0.2.2.2.2.2.1, show ((nI o) + (Int32.ofInt 1)) = nI (o + 1) from nI_1 _]; exact c1), trivial⟩ (fun _ => ?_)
    rw [show (xg 0 h.2.1 3 5) = (nI o) from c0.2.2.2.2.2.1]
    rw [show ((nI o) + (Int32.ofInt 1)) = nI (o + 1) from nI_1 _]
    have hq : a_rq a_tb (xh_ui h 3 5 (nI (o + 1))) := a_rq_ui hq
    refine xq_run hq rfl rfl (fail_q (k := 4) (pl := st) hq) ?_
    rintro v2 h2 ⟨rfl, g2, f2, l2⟩
    have hq := fx_q g2 hq
    refine xq_n 33 [] [] [.int (Int32.ofInt 0)] h2 [true] 4 hq rfl ⟨(by decide), trivial⟩ (fun hq => ?_)
    have er : kC p o d st = .inr (4, st) := by
      unfold kC
      repeat (first | rw [if_pos (by omega)] | rw [if_neg (by omega)])
      try rfl
    exact xq_ret rfl rfl rfl (co_r er (fx_t (fx_ui (fx_0) rfl) (fx_w g2 (fun _ _ => fS_c) (fun _ _ z => z))) rfl (f2) (l2) (tok_f (tok_f (S := fun c k => Nat.beq c 3) (L := fN) (tk) (fx_ui fx_0 rfl) (fun _ => rfl)) g2 (fun _ => rfl)).2.2.2.2)
set_option maxRecDepth 100000 in
set_option maxHeartbeats 4000000 in
theorem tn_lp {p o d : Nat} {h : xh_H} (c0 : cr h T n mem nn NM p o d) (h2 : tkk T n p = 2) : ∀ (f i : Nat), a_rq a_tb h → i ≤ nn → (∀ j, j < i → nmW T NM j ≠ tkw T n p) → xq f xi_X4_toldName xmi_X4_toldName 2 [(0, .ref 3), (1, .int (nI i))] [] h (nh_Q h nn (nmW T NM) (tkw T n p)) := by
  have hT : ∀ k, k < n → T k < 256 := fun k hk' => (c0.1.2.2 k hk').1
  have tk := c0.2.1
  have kb := tkk_lt (T := T) (n := n) (p := p) hT
  have n6 := c0.1.2.1
  have o121 := c0.2.2.2.2.2.2.1
  have d13 := c0.2.2.2.2.2.2.2.2.1
  have s6 := tks_le (T := T) (n := n) (p := p)
  have mm := c0.2.2.2.2.1
  have n16 := c0.2.2.2.2.2.2.2.2.2.1.2.1
  intro f
  induction f with
  | zero => intros; exact xq_0
  | succ f ih =>
    intro i hq hi ha
    cases c1 : xe_c .ge (nI i) (nI nn) with
    | true =>
      have z1 : i ≥ nn := nq_get (a := i) (b := nn) (by omega) (by omega) c1
      refine xq_m 41 [] [] [.int (Int32.ofInt (-1))] h [true] 7 hq rfl ⟨(show xe_c .ge (nI i) (xg 0 h.2.1 3 7) = true by rw [show (xg 0 h.2.1 3 7) = (nI nn) from c0.2.2.2.2.2.2.2.2.2.1.1]; exact c1), trivial⟩ (fun hq => ?_)
      exact xq_ret rfl rfl rfl ⟨rfl, Or.inl ⟨rfl, decide_eq_false (fun ⟨j, y1, y2⟩ => ha j (by omega) y2)⟩⟩
    | false =>
      have z1 : i < nn := nq_gef (a := i) (b := nn) (by omega) (by omega) c1
      refine xq_m 26 [0, 1] [(0, .ref 3), (1, .int (nI i))] [.int (xg 0 h.2.1 10 ((nI i).toNatClampNeg)), .int (xg 0 h.2.1 9 ((nI i).toNatClampNeg)), .ref 8] h [false] 16 hq rfl ⟨(show xe_c .ge (nI i) (xg 0 h.2.1 3 7) = false by rw [show (xg 0 h.2.1 3 7) = (nI nn) from c0.2.2.2.2.2.2.2.2.2.1.1]; exact c1), trivial⟩ (fun hq => ?_)
      rw [show (xg 0 h.2.1 10 ((nI i).toNatClampNeg)) = (nI (NM i).2) from (by rw [show ((nI i).toNatClampNeg) = i from nI_clamp (by omega)]; exact (c0.2.2.2.2.2.2.2.2.2.1.2.2 _ (by omega)).2.1)]
      rw [show (xg 0 h.2.1 9 ((nI i).toNatClampNeg)) = (nI (NM i).1) from (by rw [show ((nI i).toNatClampNeg) = i from nI_clamp (by omega)]; exact (c0.2.2.2.2.2.2.2.2.2.1.2.2 _ (by omega)).1)]
      have n2 := c0.2.2.2.2.2.2.2.2.2.1.2.2 i (by omega)
      refine xq_run hq rfl rfl (lk_q c0.1 tk h2 n2.2.2.2.1 n2.2.2.1 n2.2.2.2.2 hq) ?_
      rintro v3 h_v3 ⟨rfl, rfl⟩
      cases b4 : (decide (wv T (NM i).1 ((NM i).2 - (NM i).1) = tkw T n p)) with
      | true =>
        have db4 := of_decide_eq_true b4
        refine xq_n 33 [] [] [.int (nI i)] h [false] 4 hq rfl ⟨rfl, trivial⟩ (fun hq => ?_)
        exact xq_ret rfl rfl rfl ⟨rfl, Or.inr ⟨i, by omega, rfl, db4, decide_eq_true ⟨i, by omega, db4⟩⟩⟩
      | false =>
        have db4 := of_decide_eq_false b4
        refine xq_n 2 [0, 1] [(0, .ref 3), (1, .int ((nI i) + Int32.ofInt 1))] [] h [true] 5 hq rfl ⟨rfl, trivial⟩ (fun hq => ?_)
        rw [show ((nI i) + Int32.ofInt 1) = nI (i + 1) from nI_1 _]
        exact ih (i + 1) hq (by omega) (fun j hj => by
          by_cases ek : j = i
          · rw [ek]; exact db4
          · exact ha j (by omega))
set_option maxRecDepth 100000 in
set_option maxHeartbeats 4000000 in
theorem tn_q {f p o d : Nat} {h : xh_H} (c0 : cr h T n mem nn NM p o d) (h2 : tkk T n p = 2) (hq : a_rq a_tb h) : xq f xi_X4_toldName xmi_X4_toldName 0 [(0, .ref 3)] [] h (nh_Q h nn (nmW T NM) (tkw T n p)) := by
  refine xq_n 2 [0, 1] [(0, .ref 3), (1, .int (Int32.ofInt 0))] [] h [] 4 hq rfl trivial (fun hq => ?_)
  exact tn_lp c0 h2 f 0 hq (Nat.zero_le _) (fun j hj => absurd hj (Nat.not_lt_zero j))
set_option maxRecDepth 100000 in
set_option maxHeartbeats 4000000 in
theorem nmb_q {f p o d : Nat} {h : xh_H} (hl : lone T n p = true) (c0 : cr h T n mem nn NM p o d) (hq : a_rq a_tb h) : xq f xi_X4_noteMember xmi_X4_noteMember 0 [(0, .ref 3)] [] h (co_Q h T n mem nn NM (kM T n mem p o d)) := by
  have hT : ∀ k, k < n → T k < 256 := fun k hk' => (c0.1.2.2 k hk').1
  have tk := c0.2.1
  have kb := tkk_lt (T := T) (n := n) (p := p) hT
  have n6 := c0.1.2.1
  have o121 := c0.2.2.2.2.2.2.1
  have d13 := c0.2.2.2.2.2.2.2.2.1
  have s6 := tks_le (T := T) (n := n) (p := p)
  have mm := c0.2.2.2.2.1
  have n16 := c0.2.2.2.2.2.2.2.2.2.1.2.1
  have dl := of_decide_eq_true hl
  have gt := tke_gt (T := T) (n := n) (p := p) (by omega)
  have l1 := (tk2 dl.1).2.2 (tks T n p) (by omega) (by omega)
  refine xq_n 4 [0] [(0, .ref 3)] [.ref 8] h [] 4 hq rfl trivial (fun hq => ?_)
  refine xq_run hq rfl rfl (let_q (c0.1) (tk) (by omega) hq) ?_
  rintro v1 h_v1 ⟨rfl, rfl⟩
  cases c2 : xe_c .lt (nI (T (tks T n p) - 97)) 0 with
  | true =>
    have z2 : (T (tks T n p) - 97) < 0 := nq_ltt (a := (T (tks T n p) - 97)) (b := 0) (by omega) (by omega) c2
    omega
  | false =>
    have z2 : (T (tks T n p) - 97) ≥ 0 := nq_ltf (a := (T (tks T n p) - 97)) (b := 0) (by omega) (by omega) c2
    cases c3 : xe_c .lt (nI (T (tks T n p) - 97)) (nI mem) with
    | true =>
      have z3 : (T (tks T n p) - 97) < mem := nq_ltt (a := (T (tks T n p) - 97)) (b := mem) (by omega) (by omega) c3
      refine xq_n 39 [0, 1] [(0, .ref 3), (1, .int (nI (T (tks T n p) - 97)))] [.int (nI (T (tks T n p) - 97)), .int (Int32.ofInt 0), .ref 4] h [false, true] 13 hq rfl ⟨c2, (show xe_c .lt (nI (T (tks T n p) - 97)) (xg 0 h.2.1 3 4) = true by rw [show (xg 0 h.2.1 3 4) = (nI mem) from c0.2.2.2.1]; exact c3), trivial⟩ (fun hq => ?_)
      refine xq_run hq rfl rfl (add_q hq) ?_
      rintro v4 h4 ⟨rfl, g4⟩
      have hq := fx_q g4 hq
      refine xq_n 43 [] [] [.int (Int32.ofInt 1)] h4 [] 3 hq rfl trivial (fun hq => ?_)
      have er : kM T n mem p o d = .inl (p, o, d) := by
        unfold kM
        repeat (first | rw [if_pos (by omega)] | rw [if_neg (by omega)])
        try rfl
      exact xq_ret rfl rfl rfl (co_l er (fx_t (fx_0) (fx_w g4 (fun _ _ => aS_c) (fun _ _ z => z))) rfl ⟨ct_f (S := cS) (L := fN) c0.1 (fx_t (fx_0) (fx_w g4 (fun _ _ => aS_c) (fun _ _ z => z))) rfl (fun _ => rfl), tok_f (tk) g4 (fun _ => rfl), (fx_i g4 rfl).trans (c0.2.2.1), (fx_i g4 rfl).trans (c0.2.2.2.1), c0.2.2.2.2.1, (fx_i g4 rfl).trans (c0.2.2.2.2.2.1), by omega, (fx_i g4 rfl).trans (c0.2.2.2.2.2.2.2.1), by omega, cn_f (S := cS) (L := fN) c0.2.2.2.2.2.2.2.2.2.1 (fx_t (fx_0) (fx_w g4 (fun _ _ => aS_c) (fun _ _ z => z))) rfl (fun _ => rfl) (fun _ => rfl), (fx_i g4 rfl).trans (c0.2.2.2.2.2.2.2.2.2.2)⟩)
    | false =>
      have z3 : (T (tks T n p) - 97) ≥ mem := nq_ltf (a := (T (tks T n p) - 97)) (b := mem) (by omega) (by omega) c3
      refine xq_n 29 [0, 1] [(0, .ref 3), (1, .int (nI (T (tks T n p) - 97)))] [.int (xg 0 h.2.1 8 4), .int (Int32.ofInt 2), .ref 3] h [false, false] 14 hq rfl ⟨c2, (show xe_c .lt (nI (T (tks T n p) - 97)) (xg 0 h.2.1 3 4) = false by rw [show (xg 0 h.2.1 3 4) = (nI mem) from c0.2.2.2.1]; exact c3), trivial⟩ (fun hq => ?_)
      rw [show (xg 0 h.2.1 8 4) = (nI (tks T n p)) from tk.2.1]
      refine xq_run hq rfl rfl (fail_q (k := 2) (pl := (tks T n p)) hq) ?_
      rintro v5 h5 ⟨rfl, g5, f5, l5⟩
      have hq := fx_q g5 hq
      have er : kM T n mem p o d = .inr (2, tks T n p) := by
        unfold kM
        repeat (first | rw [if_pos (by omega)] | rw [if_neg (by omega)])
        try rfl
      exact xq_ret rfl rfl rfl (co_r er (fx_t (fx_0) (fx_w g5 (fun _ _ => fS_c) (fun _ _ z => z))) rfl (f5) (l5) (tok_f (tk) g5 (fun _ => rfl)).2.2.2.2)
set_option maxRecDepth 100000 in
set_option maxHeartbeats 4000000 in
theorem nnm_q {f p o d : Nat} {h : xh_H} (c0 : cr h T n mem nn NM p o d) (hq : a_rq a_tb h) : xq f xi_X4_noteName xmi_X4_noteName 0 [(0, .ref 3)] [] h (co_Q h T n mem nn NM (kN T n nn (nmW T NM) p o d)) := by
  have hT : ∀ k, k < n → T k < 256 := fun k hk' => (c0.1.2.2 k hk').1
  have tk := c0.2.1
  have kb := tkk_lt (T := T) (n := n) (p := p) hT
  have n6 := c0.1.2.1
  have o121 := c0.2.2.2.2.2.2.1
  have d13 := c0.2.2.2.2.2.2.2.2.1
  have s6 := tks_le (T := T) (n := n) (p := p)
  have mm := c0.2.2.2.2.1
  have n16 := c0.2.2.2.2.2.2.2.2.2.1.2.1
  refine xq_n 4 [0] [(0, .ref 3)] [.ref 8] h [] 4 hq rfl trivial (fun hq => ?_)
  refine xq_run hq rfl rfl (nm_q (c0.1) (tk) hq) ?_
  rintro v1 h_v1 ⟨rfl, rfl⟩
  cases b2 : (nmt T n p) with
  | true =>
    have db2 := of_decide_eq_true b2
    refine xq_n 24 [0] [(0, .ref 3)] [.ref 3] h [true] 4 hq rfl ⟨rfl, trivial⟩ (fun hq => ?_)
    refine xq_run hq rfl rfl (tn_q c0 (by omega) hq) ?_
    rintro v3 h_3 ⟨rfl, ⟨rfl, hn3⟩ | ⟨kk3, kl3, rfl, -, hn3⟩⟩
    · skip
      refine xq_n 42 [0, 1] [(0, .ref 3), (1, .int (Int32.ofInt (-1)))] [.int (xg 0 h.2.1 8 4), .int (Int32.ofInt 3), .ref 3] h [false] 11 hq rfl ⟨(by decide), trivial⟩ (fun hq => ?_)
      rw [show (xg 0 h.2.1 8 4) = (nI (tks T n p)) from tk.2.1]
      refine xq_run hq rfl rfl (fail_q (k := 3) (pl := (tks T n p)) hq) ?_
      rintro v4 h4 ⟨rfl, g4, f4, l4⟩
      have hq := fx_q g4 hq
      have er : kN T n nn (nmW T NM) p o d = .inr (3, tks T n p) := by
        unfold kN
        repeat (first | rw [if_pos (by omega)] | rw [if_neg (by omega)] | rw [if_pos b2] | rw [if_neg (by rw [b2]; decide)] | rw [if_pos hn3] | rw [if_neg (by rw [hn3]; decide)])
        try rfl
      exact xq_ret rfl rfl rfl (co_r er (fx_t (fx_0) (fx_w g4 (fun _ _ => fS_c) (fun _ _ z => z))) rfl (f4) (l4) (tok_f (tk) g4 (fun _ => rfl)).2.2.2.2)
    · skip
      cases c5 : xe_c .ne (nI kk3) (Int32.ofInt (-1)) with
      | true =>
        refine xq_n 52 [0, 1] [(0, .ref 3), (1, .int (nI kk3))] [.int (nI kk3), .int (Int32.ofInt 1), .ref 4] h [true] 10 hq rfl ⟨c5, trivial⟩ (fun hq => ?_)
        refine xq_run hq rfl rfl (add_q hq) ?_
        rintro v6 h6 ⟨rfl, g6⟩
        have hq := fx_q g6 hq
        refine xq_n 56 [] [] [.int (Int32.ofInt 1)] h6 [] 3 hq rfl trivial (fun hq => ?_)
        have er : kN T n nn (nmW T NM) p o d = .inl (p, o, d) := by
          unfold kN
          repeat (first | rw [if_pos (by omega)] | rw [if_neg (by omega)] | rw [if_pos b2] | rw [if_neg (by rw [b2]; decide)] | rw [if_pos hn3] | rw [if_neg (by rw [hn3]; decide)])
          try rfl
        exact xq_ret rfl rfl rfl (co_l er (fx_t (fx_0) (fx_w g6 (fun _ _ => aS_c) (fun _ _ z => z))) rfl ⟨ct_f (S := cS) (L := fN) c0.1 (fx_t (fx_0) (fx_w g6 (fun _ _ => aS_c) (fun _ _ z => z))) rfl (fun _ => rfl), tok_f (tk) g6 (fun _ => rfl), (fx_i g6 rfl).trans (c0.2.2.1), (fx_i g6 rfl).trans (c0.2.2.2.1), c0.2.2.2.2.1, (fx_i g6 rfl).trans (c0.2.2.2.2.2.1), by omega, (fx_i g6 rfl).trans (c0.2.2.2.2.2.2.2.1), by omega, cn_f (S := cS) (L := fN) c0.2.2.2.2.2.2.2.2.2.1 (fx_t (fx_0) (fx_w g6 (fun _ _ => aS_c) (fun _ _ z => z))) rfl (fun _ => rfl) (fun _ => rfl), (fx_i g6 rfl).trans (c0.2.2.2.2.2.2.2.2.2.2)⟩)
      | false =>
        exact absurd (xne_j c5) (nIm1 (by omega))
  | false =>
    have db2 := of_decide_eq_false b2
    refine xq_n 19 [0] [(0, .ref 3)] [.int (xg 0 h.2.1 8 4), .int (Int32.ofInt 1), .ref 3] h [false] 8 hq rfl ⟨rfl, trivial⟩ (fun hq => ?_)
    rw [show (xg 0 h.2.1 8 4) = (nI (tks T n p)) from tk.2.1]
    refine xq_run hq rfl rfl (fail_q (k := 1) (pl := (tks T n p)) hq) ?_
    rintro v7 h7 ⟨rfl, g7, f7, l7⟩
    have hq := fx_q g7 hq
    have er : kN T n nn (nmW T NM) p o d = .inr (1, tks T n p) := by
      unfold kN
      repeat (first | rw [if_pos (by omega)] | rw [if_neg (by omega)] | rw [if_pos b2] | rw [if_neg (by rw [b2]; decide)])
      try rfl
    exact xq_ret rfl rfl rfl (co_r er (fx_t (fx_0) (fx_w g7 (fun _ _ => fS_c) (fun _ _ z => z))) rfl (f7) (l7) (tok_f (tk) g7 (fun _ => rfl)).2.2.2.2)
end XRL2
end
section
section XRM
variable {T : Nat → Nat} {n mem nn : Nat} {NM : Nat → Nat × Nat}
/-- a list behind its number -/
def qt (T : Nat → Nat) (n p o st num : Nat) (fs : List Nat) : aRs := if num = 0 then .inr (2, st) else if o = 120 then .inr (4, st) else bls T n p (o + 1) fs
def rO (h : xh_H) (T : Nat → Nat) (n mem nn : Nat) (NM : Nat → Nat × Nat) (o d : Nat) (G : Nat → Nat → Prop) (B : Nat × Nat → Prop) (v : Option Value) (h' : xh_H) : Prop := fx cS fN h h' ∧ ((v = some (.int 1) ∧ ∃ p' o', cr h' T n mem nn NM p' o' d ∧ o < o' ∧ o' ≤ 120 ∧ G p' o') ∨ (v = some (.int 0) ∧ ∃ k pl, xg 0 h'.2.1 3 8 = nI k ∧ xg 0 h'.2.1 3 9 = nI pl ∧ B (k, pl)))
section
variable (T : Nat → Nat) (n mem nn : Nat) (NM : Nat → Nat × Nat)
def sOne (f : Nat) : Prop := ∀ (h : xh_H) (p o d : Nat), cr h T n mem nn NM p o d → o ≤ 120 → d ≤ 12 → a_rq a_tb h → xq f xi_X4_readOne xmi_X4_readOne 0 [(0, .ref 3)] [] h (rO h T n mem nn NM o d (fun p' o' => ∀ fs : List Nat, fs.length = d + 1 → Rr T n mem nn (nmW T NM) (bo T n mem nn (nmW T NM) p o fs) (0, p', o', fs)) (fun e => ∀ fs : List Nat, fs.length = d + 1 → Fr T n mem nn (nmW T NM) (bo T n mem nn (nmW T NM) p o fs) e))
def sAll (f : Nat) : Prop := ∀ (h : xh_H) (p o d : Nat), cr h T n mem nn NM p o d → o ≤ 120 → d ≤ 12 → a_rq a_tb h → xq f xi_X4_readAll xmi_X4_readAll 0 [(0, .ref 3)] [] h (rO h T n mem nn NM o d (fun p' o' => ky T n p' 2 = false ∧ ∀ (t : Nat) (fs : List Nat), t ≠ 2 → fs.length = d → Rc T n mem nn (nmW T NM) (1, p, o, t :: fs) (0, p', o', t :: fs)) (fun e => ∀ (t : Nat) (fs : List Nat), t ≠ 2 → fs.length = d → Fl T n mem nn (nmW T NM) (1, p, o, t :: fs) e))
def sRule (f : Nat) : Prop := ∀ (h : xh_H) (p o d : Nat), cr h T n mem nn NM p o d → o ≤ 120 → d ≤ 12 → a_rq a_tb h → xq f xi_X4_readRule xmi_X4_readRule 0 [(0, .ref 3)] [] h (rO h T n mem nn NM o d (fun p' o' => ky T n p' 2 = false ∧ ky T n p' 3 = false ∧ ∀ (t : Nat) (fs : List Nat), t ≠ 2 → fs.length = d → Rc T n mem nn (nmW T NM) (1, p, o, t :: fs) (0, p', o', t :: fs)) (fun e => ∀ (t : Nat) (fs : List Nat), t ≠ 2 → fs.length = d → Fl T n mem nn (nmW T NM) (1, p, o, t :: fs) e))
def sItem (f : Nat) : Prop := ∀ (h : xh_H) (p o d : Nat), cr h T n mem nn NM p o d → o ≤ 120 → d ≤ 12 → a_rq a_tb h → xq f xi_X4_readItem xmi_X4_readItem 0 [(0, .ref 3)] [] h (rO h T n mem nn NM o d (fun p' o' => ∀ fs : List Nat, fs.length = d → Rc T n mem nn (nmW T NM) (1, p, o, 2 :: fs) (0, p', o', 2 :: fs)) (fun e => ∀ fs : List Nat, fs.length = d → Fl T n mem nn (nmW T NM) (1, p, o, 2 :: fs) e))
def sQuota (f : Nat) : Prop := ∀ (h : xh_H) (p o d st num : Nat), cr h T n mem nn NM p o d → o ≤ 120 → d ≤ 12 → num ≤ 999 → a_rq a_tb h → xq f xi_X4_readQuota xmi_X4_readQuota 0 [(0, .ref 3), (1, .int (nI st)), (2, .int (nI num))] [] h (rO h T n mem nn NM o d (fun p' o' => ∀ fs : List Nat, fs.length = d + 1 → Rr T n mem nn (nmW T NM) (qt T n p o st num fs) (0, p', o', fs)) (fun e => ∀ fs : List Nat, fs.length = d + 1 → Fr T n mem nn (nmW T NM) (qt T n p o st num fs) e))
end
theorem nI_dec1 {a : Nat} (h : 1 ≤ a) : nI a - Int32.ofInt 1 = nI (a - 1) := nI_sub (b := 1) h
theorem bgO {p o t : Nat} {fs : List Nat} {NW : Nat → Nat} (ht : t ≠ 2) : stp T n mem nn NW (1, p, o, t :: fs) = bo T n mem nn NW p o (t :: fs) := by
  show (if t :: fs = [] then _ else if 1 = 1 then bg T n mem nn NW p o (t :: fs) else _) = _
  rw [if_neg (by intro z; cases z), if_pos rfl]
  unfold bg
  rw [if_neg]
  rintro ⟨e, -⟩
  exact ht (Option.some.inj e)
theorem bgI {p o : Nat} {fs : List Nat} {NW : Nat → Nat} : stp T n mem nn NW (1, p, o, 2 :: fs) = if tkk T n p = 3 then bi T n mem nn NW p o (2 :: fs) else bo T n mem nn NW p o (2 :: fs) := by
  show (if 2 :: fs = [] then _ else if 1 = 1 then bg T n mem nn NW p o (2 :: fs) else _) = _
  rw [if_neg (by intro z; cases z), if_pos rfl]
  unfold bg
  by_cases h : tkk T n p = 3
  · rw [if_pos ⟨rfl, h⟩, if_pos h]
  · rw [if_neg (fun z => h z.2), if_neg h]
theorem enE {p o t : Nat} {fs : List Nat} {NW : Nat → Nat} : stp T n mem nn NW (0, p, o, t :: fs) = en T n p o (t :: fs) := by
  show (if t :: fs = [] then _ else if 0 = 1 then _ else en T n p o (t :: fs)) = _
  rw [if_neg (by intro z; cases z), if_neg (by decide)]
set_option maxRecDepth 100000 in
set_option maxHeartbeats 4000000 in
theorem one_s {f : Nat} (iq : sQuota T n mem nn NM f) (ir : sRule T n mem nn NM f) : sOne T n mem nn NM (f + 1) := by
  intro h p o d c0 o6 d12 hq
  have hT : ∀ k, k < n → T k < 256 := fun k hk' => (c0.1.2.2 k hk').1
  have kb := tkk_lt (T := T) (n := n) (p := p) hT
  have n6 := c0.1.2.1
  have s6 := tks_le (T := T) (n := n) (p := p)
  have mm := c0.2.2.2.2.1
  have n16 := c0.2.2.2.2.2.2.2.2.2.1.2.1
  have t9 : tkn T n p ≤ 999 := vf_999
  cases c1 : xe_c .ne (nI (tkk T n p)) (Int32.ofInt 3) with
  | true =>
    have z1 : (tkk T n p) ≠ 3 := nq_net (a := (tkk T n p)) (b := 3) (by omega) (by omega) c1
    cases c2 : xe_c .ne (nI (tkk T n p)) 40 with
    | true =>
      have z2 : (tkk T n p) ≠ 40 := nq_net (a := (tkk T n p)) (b := 40) (by omega) (by omega) c2
      refine xq_m 108 [0, 1] [(0, .ref 3), (1, .int (xg 0 h.2.1 8 4))] [.ref 8] h [true, true] 18 hq rfl ⟨(show xe_c .ne (xg 0 h.2.1 8 3) (Int32.ofInt 3) = true by rw [show (xg 0 h.2.1 8 3) = (nI (tkk T n p)) from c0.2.1.1]; exact c1), (show xe_c .ne (xg 0 h.2.1 8 3) 40 = true by rw [show (xg 0 h.2.1 8 3) = (nI (tkk T n p)) from c0.2.1.1]; exact c2), trivial⟩ (fun hq => ?_)
      rw [show (xg 0 h.2.1 8 4) = (nI (tks T n p)) from c0.2.1.2.1]
      refine xq_run hq rfl rfl (lo_q (c0.1) (c0.2.1) hq) ?_
      rintro v3 h_v3 ⟨rfl, rfl⟩
      cases b4 : (lone T n p) with
      | true =>
        have db4 := of_decide_eq_true b4
        refine xq_n 115 [0, 1] [(0, .ref 3), (1, .int (nI (tks T n p)))] [.ref 3] h [false] 4 hq rfl ⟨rfl, trivial⟩ (fun hq => ?_)
        refine xq_run hq rfl rfl (nmb_q b4 c0 hq) ?_
        rintro v5 h5 ⟨g5, l5, q5⟩
        have hq := fx_q g5 hq
        by_cases w5_0 : mem ≤ T (tks T n p) - 97
        · obtain ⟨rfl, f5, y5, z5, e65, e5⟩ := q5 2 (tks T n p) (by unfold kM; rw [if_pos w5_0])
          refine xq_n 149 [0, 1, 2] [(0, .ref 3), (1, .int (nI (tks T n p))), (2, .int (Int32.ofInt 0))] [.ref 8] h5 [true] 7 hq rfl ⟨(by decide), trivial⟩ (fun hq => ?_)
          refine xq_run hq rfl rfl (adv_q hq hT (ct_f (S := cS) (L := fN) (c0.1) (g5) rfl (fun _ => rfl)) ((fx_i g5 rfl).trans (c0.2.2.1)) e5 e65) ?_
          rintro v6 h6 ⟨rfl, g6, -⟩
          have hq := fx_q g6 hq
          refine xq_n 153 [] [] [.int (Int32.ofInt 0)] h6 [] 3 hq rfl trivial (fun hq => ?_)
          refine xq_ret rfl rfl rfl ⟨fx_t (fx_t (fx_0) (g5)) (fx_w g6 (fun _ _ => sS_c) (fun _ _ z => z)), Or.inr ⟨rfl, 2, tks T n p, (fx_i g6 rfl).trans (f5), (fx_i g6 rfl).trans (y5), fun fs hf => ?_⟩⟩
          refine Or.inl ?_
          unfold bo
          repeat (first | rw [if_pos (by omega)] | rw [if_neg (by omega)] | rw [if_pos b4] | rw [if_neg b4] | rw [if_neg (by rw [b4]; decide)] | rw [if_pos w5_0] | rw [if_neg w5_0] | rw [if_neg (by rw [w5_0]; decide)])
          try (exfalso; omega)
        · skip
          obtain ⟨rfl, c5⟩ := l5 (p) (o) (d) (by unfold kM; rw [if_neg w5_0])
          have kb5 := tkk_lt (T := T) (n := n) (p := p) hT
          have s65 := tks_le (T := T) (n := n) (p := p)
          refine xq_n 133 [0, 1] [(0, .ref 3), (1, .int (nI (tks T n p)))] [.int (nI (tks T n p)), .ref 3] h5 [false] 6 hq rfl ⟨(by decide), trivial⟩ (fun hq => ?_)
          refine xq_run hq rfl rfl (co_q (st := (tks T n p)) (by omega) c5 hq) ?_
          rintro v7 h7 ⟨g7, l7, q7⟩
          have hq := fx_q g7 hq
          by_cases w7_0 : 120 ≤ o
          · obtain ⟨rfl, f7, y7, z7, e67, e7⟩ := q7 4 ((tks T n p)) (by unfold kC; rw [if_pos w7_0])
            refine xq_n 149 [0, 1, 2] [(0, .ref 3), (1, .int (nI (tks T n p))), (2, .int (Int32.ofInt 0))] [.ref 8] h7 [true] 7 hq rfl ⟨(by decide), trivial⟩ (fun hq => ?_)
            refine xq_run hq rfl rfl (adv_q hq hT (ct_f (S := cS) (L := fN) (c5.1) (g7) rfl (fun _ => rfl)) ((fx_i g7 rfl).trans (c5.2.2.1)) e7 e67) ?_
            rintro v8 h8 ⟨rfl, g8, -⟩
            have hq := fx_q g8 hq
            refine xq_n 153 [] [] [.int (Int32.ofInt 0)] h8 [] 3 hq rfl trivial (fun hq => ?_)
            refine xq_ret rfl rfl rfl ⟨fx_t (fx_t (fx_t (fx_0) (g5)) (g7)) (fx_w g8 (fun _ _ => sS_c) (fun _ _ z => z)), Or.inr ⟨rfl, 4, (tks T n p), (fx_i g8 rfl).trans (f7), (fx_i g8 rfl).trans (y7), fun fs hf => ?_⟩⟩
            refine Or.inl ?_
            unfold bo
            repeat (first | rw [if_pos (by omega)] | rw [if_neg (by omega)] | rw [if_pos b4] | rw [if_neg b4] | rw [if_neg (by rw [b4]; decide)] | rw [if_pos w5_0] | rw [if_neg w5_0] | rw [if_neg (by rw [w5_0]; decide)] | rw [if_pos w7_0] | rw [if_neg w7_0] | rw [if_neg (by rw [w7_0]; decide)])
            try (exfalso; omega)
          · skip
            obtain ⟨rfl, c7⟩ := l7 (p) (o + 1) (d) (by unfold kC; rw [if_neg w7_0])
            have kb7 := tkk_lt (T := T) (n := n) (p := p) hT
            have s67 := tks_le (T := T) (n := n) (p := p)
            refine xq_n 149 [0, 1, 2] [(0, .ref 3), (1, .int (nI (tks T n p))), (2, .int (Int32.ofInt 1))] [.ref 8] h7 [false] 8 hq rfl ⟨(by decide), trivial⟩ (fun hq => ?_)
            have nz9 : tkk T n p ≠ 0 := by omega
            have le9 := tke_le nz9
            refine xq_run hq rfl rfl (adv_q hq hT (c7.1) (c7.2.2.1) ((c7.2.1.2.2.1 (by omega)).1) (by omega)) ?_
            rintro v9 h9 ⟨rfl, g9, t9⟩
            have hq := fx_q g9 hq
            have kb9 := tkk_lt (T := T) (n := n) (p := tke T n p) hT
            have s69 := tks_le (T := T) (n := n) (p := tke T n p)
            refine xq_n 153 [] [] [.int (Int32.ofInt 1)] h9 [] 3 hq rfl trivial (fun hq => ?_)
            refine xq_ret rfl rfl rfl ⟨fx_t (fx_t (fx_t (fx_0) (g5)) (g7)) (fx_w g9 (fun _ _ => sS_c) (fun _ _ z => z)), Or.inl ⟨rfl, tke T n p, (o + 1), ⟨ct_f (S := cS) (L := fN) (c7.1) (fx_w g9 (fun _ _ => sS_c) (fun _ _ z => z)) rfl (fun _ => rfl), t9, (fx_i g9 rfl).trans (c7.2.2.1), (fx_i g9 rfl).trans (c7.2.2.2.1), c0.2.2.2.2.1, (fx_i g9 rfl).trans (c7.2.2.2.2.2.1), by omega, (fx_i g9 rfl).trans (c7.2.2.2.2.2.2.2.1), by omega, cn_f (S := cS) (L := fN) (c7.2.2.2.2.2.2.2.2.2.1) (fx_w g9 (fun _ _ => sS_c) (fun _ _ z => z)) rfl (fun _ => rfl) (fun _ => rfl), (fx_i g9 rfl).trans (c7.2.2.2.2.2.2.2.2.2.2)⟩, by omega, by omega, fun fs hf => ?_⟩⟩
            refine ⟨(0, tke T n p, o + 1, fs), ?_, Rc_0⟩
            unfold bo
            repeat (first | rw [if_pos (by omega)] | rw [if_neg (by omega)] | rw [if_pos b4] | rw [if_neg b4] | rw [if_neg (by rw [b4]; decide)] | rw [if_pos w5_0] | rw [if_neg w5_0] | rw [if_neg (by rw [w5_0]; decide)] | rw [if_pos w7_0] | rw [if_neg w7_0] | rw [if_neg (by rw [w7_0]; decide)])
      | false =>
        have db4 := of_decide_eq_false b4
        refine xq_n 125 [0, 1] [(0, .ref 3), (1, .int (nI (tks T n p)))] [.ref 3] h [true] 4 hq rfl ⟨rfl, trivial⟩ (fun hq => ?_)
        refine xq_run hq rfl rfl (nnm_q c0 hq) ?_
        rintro v10 h10 ⟨g10, l10, q10⟩
        have hq := fx_q g10 hq
        by_cases w10_0 : nmt T n p = false
        · obtain ⟨rfl, f10, y10, z10, e610, e10⟩ := q10 1 (tks T n p) (by unfold kN; rw [if_pos w10_0])
          refine xq_n 149 [0, 1, 2] [(0, .ref 3), (1, .int (nI (tks T n p))), (2, .int (Int32.ofInt 0))] [.ref 8] h10 [true] 7 hq rfl ⟨(by decide), trivial⟩ (fun hq => ?_)
          refine xq_run hq rfl rfl (adv_q hq hT (ct_f (S := cS) (L := fN) (c0.1) (g10) rfl (fun _ => rfl)) ((fx_i g10 rfl).trans (c0.2.2.1)) e10 e610) ?_
          rintro v11 h11 ⟨rfl, g11, -⟩
          have hq := fx_q g11 hq
          refine xq_n 153 [] [] [.int (Int32.ofInt 0)] h11 [] 3 hq rfl trivial (fun hq => ?_)
          refine xq_ret rfl rfl rfl ⟨fx_t (fx_t (fx_0) (g10)) (fx_w g11 (fun _ _ => sS_c) (fun _ _ z => z)), Or.inr ⟨rfl, 1, tks T n p, (fx_i g11 rfl).trans (f10), (fx_i g11 rfl).trans (y10), fun fs hf => ?_⟩⟩
          refine Or.inl ?_
          unfold bo
          repeat (first | rw [if_pos (by omega)] | rw [if_neg (by omega)] | rw [if_pos b4] | rw [if_neg b4] | rw [if_neg (by rw [b4]; decide)] | rw [if_pos w10_0] | rw [if_neg w10_0] | rw [if_neg (by rw [w10_0]; decide)])
          try (exfalso; omega)
        · skip
          have w10_0t : nmt T n p = true := eq_true_of_ne_false w10_0
          have dw10_0 := of_decide_eq_true w10_0t
          by_cases w10_1 : hasn nn (nmW T NM) (tkw T n p) = false
          · obtain ⟨rfl, f10, y10, z10, e610, e10⟩ := q10 3 (tks T n p) (by unfold kN; rw [if_neg w10_0, if_pos w10_1])
            refine xq_n 149 [0, 1, 2] [(0, .ref 3), (1, .int (nI (tks T n p))), (2, .int (Int32.ofInt 0))] [.ref 8] h10 [true] 7 hq rfl ⟨(by decide), trivial⟩ (fun hq => ?_)
            refine xq_run hq rfl rfl (adv_q hq hT (ct_f (S := cS) (L := fN) (c0.1) (g10) rfl (fun _ => rfl)) ((fx_i g10 rfl).trans (c0.2.2.1)) e10 e610) ?_
            rintro v12 h12 ⟨rfl, g12, -⟩
            have hq := fx_q g12 hq
            refine xq_n 153 [] [] [.int (Int32.ofInt 0)] h12 [] 3 hq rfl trivial (fun hq => ?_)
            refine xq_ret rfl rfl rfl ⟨fx_t (fx_t (fx_0) (g10)) (fx_w g12 (fun _ _ => sS_c) (fun _ _ z => z)), Or.inr ⟨rfl, 3, tks T n p, (fx_i g12 rfl).trans (f10), (fx_i g12 rfl).trans (y10), fun fs hf => ?_⟩⟩
            refine Or.inl ?_
            unfold bo
            repeat (first | rw [if_pos (by omega)] | rw [if_neg (by omega)] | rw [if_pos b4] | rw [if_neg b4] | rw [if_neg (by rw [b4]; decide)] | rw [if_pos w10_0] | rw [if_neg w10_0] | rw [if_neg (by rw [w10_0]; decide)] | rw [if_pos w10_1] | rw [if_neg w10_1] | rw [if_neg (by rw [w10_1]; decide)] | rw [if_pos w10_0t] | rw [if_neg w10_0t] | rw [if_neg (by rw [w10_0t]; decide)])
            try (exfalso; omega)
          · skip
            have w10_1t : hasn nn (nmW T NM) (tkw T n p) = true := eq_true_of_ne_false w10_1
            obtain ⟨rfl, c10⟩ := l10 (p) (o) (d) (by unfold kN; rw [if_neg w10_0, if_neg w10_1])
            have kb10 := tkk_lt (T := T) (n := n) (p := p) hT
            have s610 := tks_le (T := T) (n := n) (p := p)
            refine xq_n 133 [0, 1] [(0, .ref 3), (1, .int (nI (tks T n p)))] [.int (nI (tks T n p)), .ref 3] h10 [false] 5 hq rfl ⟨(by decide), trivial⟩ (fun hq => ?_)
            refine xq_run hq rfl rfl (co_q (st := (tks T n p)) (by omega) c10 hq) ?_
            rintro v13 h13 ⟨g13, l13, q13⟩
            have hq := fx_q g13 hq
            by_cases w13_0 : 120 ≤ o
            · obtain ⟨rfl, f13, y13, z13, e613, e13⟩ := q13 4 ((tks T n p)) (by unfold kC; rw [if_pos w13_0])
              refine xq_n 149 [0, 1, 2] [(0, .ref 3), (1, .int (nI (tks T n p))), (2, .int (Int32.ofInt 0))] [.ref 8] h13 [true] 7 hq rfl ⟨(by decide), trivial⟩ (fun hq => ?_)
              refine xq_run hq rfl rfl (adv_q hq hT (ct_f (S := cS) (L := fN) (c10.1) (g13) rfl (fun _ => rfl)) ((fx_i g13 rfl).trans (c10.2.2.1)) e13 e613) ?_
              rintro v14 h14 ⟨rfl, g14, -⟩
              have hq := fx_q g14 hq
              refine xq_n 153 [] [] [.int (Int32.ofInt 0)] h14 [] 3 hq rfl trivial (fun hq => ?_)
              refine xq_ret rfl rfl rfl ⟨fx_t (fx_t (fx_t (fx_0) (g10)) (g13)) (fx_w g14 (fun _ _ => sS_c) (fun _ _ z => z)), Or.inr ⟨rfl, 4, (tks T n p), (fx_i g14 rfl).trans (f13), (fx_i g14 rfl).trans (y13), fun fs hf => ?_⟩⟩
              refine Or.inl ?_
              unfold bo
              repeat (first | rw [if_pos (by omega)] | rw [if_neg (by omega)] | rw [if_pos b4] | rw [if_neg b4] | rw [if_neg (by rw [b4]; decide)] | rw [if_pos w10_0] | rw [if_neg w10_0] | rw [if_neg (by rw [w10_0]; decide)] | rw [if_pos w10_1] | rw [if_neg w10_1] | rw [if_neg (by rw [w10_1]; decide)] | rw [if_pos w10_0t] | rw [if_neg w10_0t] | rw [if_neg (by rw [w10_0t]; decide)] | rw [if_pos w10_1t] | rw [if_neg w10_1t] | rw [if_neg (by rw [w10_1t]; decide)] | rw [if_pos w13_0] | rw [if_neg w13_0] | rw [if_neg (by rw [w13_0]; decide)])
              try (exfalso; omega)
            · skip
              obtain ⟨rfl, c13⟩ := l13 (p) (o + 1) (d) (by unfold kC; rw [if_neg w13_0])
              have kb13 := tkk_lt (T := T) (n := n) (p := p) hT
              have s613 := tks_le (T := T) (n := n) (p := p)
              refine xq_n 149 [0, 1, 2] [(0, .ref 3), (1, .int (nI (tks T n p))), (2, .int (Int32.ofInt 1))] [.ref 8] h13 [false] 8 hq rfl ⟨(by decide), trivial⟩ (fun hq => ?_)
              have nz15 : tkk T n p ≠ 0 := by omega
              have le15 := tke_le nz15
              refine xq_run hq rfl rfl (adv_q hq hT (c13.1) (c13.2.2.1) ((c13.2.1.2.2.1 (by omega)).1) (by omega)) ?_
              rintro v15 h15 ⟨rfl, g15, t15⟩
              have hq := fx_q g15 hq
              have kb15 := tkk_lt (T := T) (n := n) (p := tke T n p) hT
              have s615 := tks_le (T := T) (n := n) (p := tke T n p)
              refine xq_n 153 [] [] [.int (Int32.ofInt 1)] h15 [] 3 hq rfl trivial (fun hq => ?_)
              refine xq_ret rfl rfl rfl ⟨fx_t (fx_t (fx_t (fx_0) (g10)) (g13)) (fx_w g15 (fun _ _ => sS_c) (fun _ _ z => z)), Or.inl ⟨rfl, tke T n p, (o + 1), ⟨ct_f (S := cS) (L := fN) (c13.1) (fx_w g15 (fun _ _ => sS_c) (fun _ _ z => z)) rfl (fun _ => rfl), t15, (fx_i g15 rfl).trans (c13.2.2.1), (fx_i g15 rfl).trans (c13.2.2.2.1), c0.2.2.2.2.1, (fx_i g15 rfl).trans (c13.2.2.2.2.2.1), by omega, (fx_i g15 rfl).trans (c13.2.2.2.2.2.2.2.1), by omega, cn_f (S := cS) (L := fN) (c13.2.2.2.2.2.2.2.2.2.1) (fx_w g15 (fun _ _ => sS_c) (fun _ _ z => z)) rfl (fun _ => rfl) (fun _ => rfl), (fx_i g15 rfl).trans (c13.2.2.2.2.2.2.2.2.2.2)⟩, by omega, by omega, fun fs hf => ?_⟩⟩
              refine ⟨(0, tke T n p, o + 1, fs), ?_, Rc_0⟩
              unfold bo
              repeat (first | rw [if_pos (by omega)] | rw [if_neg (by omega)] | rw [if_pos b4] | rw [if_neg b4] | rw [if_neg (by rw [b4]; decide)] | rw [if_pos w10_0] | rw [if_neg w10_0] | rw [if_neg (by rw [w10_0]; decide)] | rw [if_pos w10_1] | rw [if_neg w10_1] | rw [if_neg (by rw [w10_1]; decide)] | rw [if_pos w10_0t] | rw [if_neg w10_0t] | rw [if_neg (by rw [w10_0t]; decide)] | rw [if_pos w10_1t] | rw [if_neg w10_1t] | rw [if_neg (by rw [w10_1t]; decide)] | rw [if_pos w13_0] | rw [if_neg w13_0] | rw [if_neg (by rw [w13_0]; decide)])
    | false =>
      have z2 : (tkk T n p) = 40 := nq_nef (a := (tkk T n p)) (b := 40) (by omega) (by omega) c2
      refine xq_m 55 [0, 1] [(0, .ref 3), (1, .int (xg 0 h.2.1 8 4))] [.int (xg 0 h.2.1 8 4), .ref 3] h [true, false] 18 hq rfl ⟨(show xe_c .ne (xg 0 h.2.1 8 3) (Int32.ofInt 3) = true by rw [show (xg 0 h.2.1 8 3) = (nI (tkk T n p)) from c0.2.1.1]; exact c1), (show xe_c .ne (xg 0 h.2.1 8 3) 40 = false by rw [show (xg 0 h.2.1 8 3) = (nI (tkk T n p)) from c0.2.1.1]; exact c2), trivial⟩ (fun hq => ?_)
      rw [show (xg 0 h.2.1 8 4) = (nI (tks T n p)) from c0.2.1.2.1]
      refine xq_run hq rfl rfl (co_q (st := (tks T n p)) (by omega) c0 hq) ?_
      rintro v16 h16 ⟨g16, l16, q16⟩
      have hq := fx_q g16 hq
      by_cases w16_0 : 120 ≤ o
      · obtain ⟨rfl, f16, y16, z16, e616, e16⟩ := q16 4 ((tks T n p)) (by unfold kC; rw [if_pos w16_0])
        refine xq_n 103 [] [] [.int (Int32.ofInt 0)] (xh_ui h16 3 6 ((xg 0 h16.2.1 3 6) - (Int32.ofInt 1))) [true] 12 hq rfl ⟨(by decide), trivial⟩ (fun _ => ?_)
        have hq : a_rq a_tb (xh_ui h16 3 6 ((xg 0 h16.2.1 3 6) - (Int32.ofInt 1))) := a_rq_ui hq
        refine xq_ret rfl rfl rfl ⟨fx_ui (fx_t (fx_0) (g16)) rfl, Or.inr ⟨rfl, 4, (tks T n p), (gx_k (by decide)).trans (f16), (gx_k (by decide)).trans (y16), fun fs hf => ?_⟩⟩
        refine Or.inl ?_
        unfold bo
        repeat (first | rw [if_pos (by omega)] | rw [if_neg (by omega)] | rw [if_pos w16_0] | rw [if_neg w16_0] | rw [if_neg (by rw [w16_0]; decide)])
        try (exfalso; omega)
      · skip
        obtain ⟨rfl, c16⟩ := l16 (p) (o + 1) (d) (by unfold kC; rw [if_neg w16_0])
        have kb16 := tkk_lt (T := T) (n := n) (p := p) hT
        have s616 := tks_le (T := T) (n := n) (p := p)
        refine xq_n 64 [0, 1] [(0, .ref 3), (1, .int (nI (tks T n p)))] [.int 40, .ref 3] h16 [false] 5 hq rfl ⟨(by decide), trivial⟩ (fun hq => ?_)
        refine xq_run hq rfl rfl (to_q (c := 40) (by decide) (by decide) c16 hq) ?_
        rintro v17 h17 ⟨g17, l17, q17⟩
        have hq := fx_q g17 hq
        by_cases w17_0 : tkk T n p ≠ 40
        · obtain ⟨rfl, f17, y17, z17, e617, e17⟩ := q17 1 (tks T n p) (by unfold kO; rw [if_pos w17_0])
          refine xq_n 103 [] [] [.int (Int32.ofInt 0)] (xh_ui h17 3 6 ((xg 0 h17.2.1 3 6) - (Int32.ofInt 1))) [true] 12 hq rfl ⟨(by decide), trivial⟩ (fun _ => ?_)
          have hq : a_rq a_tb (xh_ui h17 3 6 ((xg 0 h17.2.1 3 6) - (Int32.ofInt 1))) := a_rq_ui hq
          refine xq_ret rfl rfl rfl ⟨fx_ui (fx_t (fx_t (fx_0) (g16)) (g17)) rfl, Or.inr ⟨rfl, 1, tks T n p, (gx_k (by decide)).trans (f17), (gx_k (by decide)).trans (y17), fun fs hf => ?_⟩⟩
          refine Or.inl ?_
          unfold bo
          repeat (first | rw [if_pos (by omega)] | rw [if_neg (by omega)] | rw [if_pos w16_0] | rw [if_neg w16_0] | rw [if_neg (by rw [w16_0]; decide)] | rw [if_pos w17_0] | rw [if_neg w17_0] | rw [if_neg (by rw [w17_0]; decide)])
          try (exfalso; omega)
        · skip
          by_cases w17_1 : 12 ≤ d
          · obtain ⟨rfl, f17, y17, z17, e617, e17⟩ := q17 4 (tks T n p) (by unfold kO; rw [if_neg w17_0, if_pos w17_1])
            refine xq_n 103 [] [] [.int (Int32.ofInt 0)] (xh_ui h17 3 6 ((xg 0 h17.2.1 3 6) - (Int32.ofInt 1))) [true] 12 hq rfl ⟨(by decide), trivial⟩ (fun _ => ?_)
            have hq : a_rq a_tb (xh_ui h17 3 6 ((xg 0 h17.2.1 3 6) - (Int32.ofInt 1))) := a_rq_ui hq
            refine xq_ret rfl rfl rfl ⟨fx_ui (fx_t (fx_t (fx_0) (g16)) (g17)) rfl, Or.inr ⟨rfl, 4, tks T n p, (gx_k (by decide)).trans (f17), (gx_k (by decide)).trans (y17), fun fs hf => ?_⟩⟩
            refine Or.inl ?_
            unfold bo
            repeat (first | rw [if_pos (by omega)] | rw [if_neg (by omega)] | rw [if_pos w16_0] | rw [if_neg w16_0] | rw [if_neg (by rw [w16_0]; decide)] | rw [if_pos w17_0] | rw [if_neg w17_0] | rw [if_neg (by rw [w17_0]; decide)] | rw [if_pos w17_1] | rw [if_neg w17_1] | rw [if_neg (by rw [w17_1]; decide)])
            try (exfalso; omega)
          · skip
            obtain ⟨rfl, c17⟩ := l17 (tke T n p) ((o + 1)) (d + 1) (by unfold kO; rw [if_neg w17_0, if_neg w17_1])
            have kb17 := tkk_lt (T := T) (n := n) (p := tke T n p) hT
            have s617 := tks_le (T := T) (n := n) (p := tke T n p)
            refine xq_n 71 [0, 1] [(0, .ref 3), (1, .int (nI (tks T n p)))] [.ref 3] h17 [false] 4 hq rfl ⟨(by decide), trivial⟩ (fun hq => ?_)
            refine xq_run hq rfl rfl (ir _ _ _ _ c17 (by omega) (by omega) hq) ?_
            rintro v18 h18 ⟨g18, ⟨rfl, pq18, oq18, c18, lt18, le18, G18⟩ | ⟨rfl, kq18, lq18, f18, y18, B18⟩⟩
            · have hq := fx_q g18 hq
              have kb18 := tkk_lt (T := T) (n := n) (p := pq18) hT
              have s618 := tks_le (T := T) (n := n) (p := pq18)
              refine xq_n 80 [0, 1] [(0, .ref 3), (1, .int (nI (tks T n p)))] [.int 41, .ref 3] h18 [false] 5 hq rfl ⟨(by decide), trivial⟩ (fun hq => ?_)
              refine xq_run hq rfl rfl (ts_q (c := 41) (by decide) (by decide) c18 hq) ?_
              rintro v19 h19 ⟨g19, l19, q19⟩
              have hq := fx_q g19 hq
              by_cases w19_0 : tkk T n pq18 ≠ 41
              · obtain ⟨rfl, f19, y19, z19, e619, e19⟩ := q19 1 (tks T n pq18) (by unfold kS; rw [if_pos w19_0])
                refine xq_n 103 [] [] [.int (Int32.ofInt 0)] (xh_ui h19 3 6 ((xg 0 h19.2.1 3 6) - (Int32.ofInt 1))) [true] 12 hq rfl ⟨(by decide), trivial⟩ (fun _ => ?_)
                have hq : a_rq a_tb (xh_ui h19 3 6 ((xg 0 h19.2.1 3 6) - (Int32.ofInt 1))) := a_rq_ui hq
                refine xq_ret rfl rfl rfl ⟨fx_ui (fx_t (fx_t (fx_t (fx_t (fx_0) (g16)) (g17)) (g18)) (g19)) rfl, Or.inr ⟨rfl, 1, tks T n pq18, (gx_k (by decide)).trans (f19), (gx_k (by decide)).trans (y19), fun fs hf => ?_⟩⟩
                refine Or.inr ⟨(1, tke T n p, o + 1, 1 :: fs), by unfold bo; repeat (first | rw [if_pos (by omega)] | rw [if_neg (by omega)] | rw [if_pos w16_0] | rw [if_neg w16_0] | rw [if_neg (by rw [w16_0]; decide)] | rw [if_pos w17_0] | rw [if_neg w17_0] | rw [if_neg (by rw [w17_0]; decide)] | rw [if_pos w17_1] | rw [if_neg w17_1] | rw [if_neg (by rw [w17_1]; decide)] | rw [if_pos w19_0] | rw [if_neg w19_0] | rw [if_neg (by rw [w19_0]; decide)]), Fl_t (G18.2.2 1 fs (by decide) hf) (Fl_1 ?_)⟩
                rw [enE]
                unfold en
                rw [if_neg (by intro z; cases z), if_neg (by rw [G18.1]; decide), if_neg (by rw [G18.2.1]; decide), if_neg (by intro z; cases z), if_neg (by omega)]
              · skip
                obtain ⟨rfl, c19⟩ := l19 (tke T n pq18) (oq18) ((d + 1)) (by unfold kS; rw [if_neg w19_0])
                have kb19 := tkk_lt (T := T) (n := n) (p := tke T n pq18) hT
                have s619 := tks_le (T := T) (n := n) (p := tke T n pq18)
                refine xq_n 103 [] [] [.int (Int32.ofInt 1)] (xh_ui h19 3 6 ((xg 0 h19.2.1 3 6) - (Int32.ofInt 1))) [false] 13 hq rfl ⟨(by decide), trivial⟩ (fun _ => ?_)
                rw [show (xg 0 h19.2.1 3 6) = (nI (d + 1)) from c19.2.2.2.2.2.2.2.1]
                rw [show ((nI (d + 1)) - (Int32.ofInt 1)) = nI ((d + 1) - 1) from nI_dec1 (by omega)]
                rw [show (nI ((d + 1) - 1)) = nI d from (by rw [Nat.add_sub_cancel])]
                have hq : a_rq a_tb (xh_ui h19 3 6 (nI d)) := a_rq_ui hq
                refine xq_ret rfl rfl rfl ⟨fx_ui (fx_t (fx_t (fx_t (fx_t (fx_0) (g16)) (g17)) (g18)) (g19)) rfl, Or.inl ⟨rfl, tke T n pq18, oq18, ⟨ct_f (S := cS) (L := fN) (c19.1) (fx_ui fx_0 rfl) rfl (fun _ => rfl), tok_f (S := fun c k => Nat.beq c 3) (L := fN) (c19.2.1) (fx_ui fx_0 rfl) (fun _ => rfl), (gx_o (by decide)).trans (c19.2.2.1), (gx_k (by decide)).trans (c19.2.2.2.1), c0.2.2.2.2.1, (gx_k (by decide)).trans (c19.2.2.2.2.2.1), by omega, gx_s, by omega, cn_f (S := cS) (L := fN) (c19.2.2.2.2.2.2.2.2.2.1) (fx_ui fx_0 rfl) rfl (fun _ => rfl) (fun _ => rfl), (gx_k (by decide)).trans (c19.2.2.2.2.2.2.2.2.2.2)⟩, by omega, by omega, fun fs hf => ?_⟩⟩
                refine ⟨(1, tke T n p, o + 1, 1 :: fs), by unfold bo; repeat (first | rw [if_pos (by omega)] | rw [if_neg (by omega)] | rw [if_pos w16_0] | rw [if_neg w16_0] | rw [if_neg (by rw [w16_0]; decide)] | rw [if_pos w17_0] | rw [if_neg w17_0] | rw [if_neg (by rw [w17_0]; decide)] | rw [if_pos w17_1] | rw [if_neg w17_1] | rw [if_neg (by rw [w17_1]; decide)] | rw [if_pos w19_0] | rw [if_neg w19_0] | rw [if_neg (by rw [w19_0]; decide)]), Rc_t (G18.2.2 1 fs (by decide) hf) (Rc_1 ?_)⟩
                rw [enE]
                unfold en
                rw [if_neg (by intro z; cases z), if_neg (by rw [G18.1]; decide), if_neg (by rw [G18.2.1]; decide), if_neg (by intro z; cases z), if_pos (by omega)]
                rfl
            · have hq := fx_q g18 hq
              refine xq_n 103 [] [] [.int (Int32.ofInt 0)] (xh_ui h18 3 6 ((xg 0 h18.2.1 3 6) - (Int32.ofInt 1))) [true] 12 hq rfl ⟨(by decide), trivial⟩ (fun _ => ?_)
              have hq : a_rq a_tb (xh_ui h18 3 6 ((xg 0 h18.2.1 3 6) - (Int32.ofInt 1))) := a_rq_ui hq
              refine xq_ret rfl rfl rfl ⟨fx_ui (fx_t (fx_t (fx_t (fx_0) (g16)) (g17)) (g18)) rfl, Or.inr ⟨rfl, kq18, lq18, (gx_k (by decide)).trans (f18), (gx_k (by decide)).trans (y18), fun fs hf => ?_⟩⟩
              exact Or.inr ⟨(1, tke T n p, o + 1, 1 :: fs), by unfold bo; repeat (first | rw [if_pos (by omega)] | rw [if_neg (by omega)] | rw [if_pos w16_0] | rw [if_neg w16_0] | rw [if_neg (by rw [w16_0]; decide)] | rw [if_pos w17_0] | rw [if_neg w17_0] | rw [if_neg (by rw [w17_0]; decide)] | rw [if_pos w17_1] | rw [if_neg w17_1] | rw [if_neg (by rw [w17_1]; decide)]), B18 1 fs (by decide) hf⟩
  | false =>
    have z1 : (tkk T n p) = 3 := nq_nef (a := (tkk T n p)) (b := 3) (by omega) (by omega) c1
    refine xq_m 31 [0, 1, 2] [(0, .ref 3), (1, .int (xg 0 h.2.1 8 4)), (2, .int (xg 0 h.2.1 8 6))] [.ref 8] h [false] 17 hq rfl ⟨(show xe_c .ne (xg 0 h.2.1 8 3) (Int32.ofInt 3) = false by rw [show (xg 0 h.2.1 8 3) = (nI (tkk T n p)) from c0.2.1.1]; exact c1), trivial⟩ (fun hq => ?_)
    rw [show (xg 0 h.2.1 8 4) = (nI (tks T n p)) from c0.2.1.2.1]
    rw [show (xg 0 h.2.1 8 6) = (nI (tkn T n p)) from c0.2.1.2.2.2.1 (by omega)]
    have nz20 : tkk T n p ≠ 0 := by omega
    have le20 := tke_le nz20
    refine xq_run hq rfl rfl (adv_q hq hT (c0.1) (c0.2.2.1) ((c0.2.1.2.2.1 (by omega)).1) (by omega)) ?_
    rintro v20 h20 ⟨rfl, g20, t20⟩
    have hq := fx_q g20 hq
    have kb20 := tkk_lt (T := T) (n := n) (p := tke T n p) hT
    have s620 := tks_le (T := T) (n := n) (p := tke T n p)
    refine xq_n 37 [0, 1, 2] [(0, .ref 3), (1, .int (nI (tks T n p))), (2, .int (nI (tkn T n p)))] [.int (nI (tkn T n p)), .int (nI (tks T n p)), .ref 3] h20 [] 5 hq rfl trivial (fun hq => ?_)
    refine xq_run hq rfl rfl (iq _ _ _ _ (tks T n p) (tkn T n p) ⟨ct_f (S := cS) (L := fN) (c0.1) (fx_w g20 (fun _ _ => sS_c) (fun _ _ z => z)) rfl (fun _ => rfl), t20, (fx_i g20 rfl).trans (c0.2.2.1), (fx_i g20 rfl).trans (c0.2.2.2.1), c0.2.2.2.2.1, (fx_i g20 rfl).trans (c0.2.2.2.2.2.1), by omega, (fx_i g20 rfl).trans (c0.2.2.2.2.2.2.2.1), by omega, cn_f (S := cS) (L := fN) (c0.2.2.2.2.2.2.2.2.2.1) (fx_w g20 (fun _ _ => sS_c) (fun _ _ z => z)) rfl (fun _ => rfl) (fun _ => rfl), (fx_i g20 rfl).trans (c0.2.2.2.2.2.2.2.2.2.2)⟩ (by omega) (by omega) (by omega) hq) ?_
    rintro v21 h21 ⟨g21, ⟨rfl, pq21, oq21, c21, lt21, le21, G21⟩ | ⟨rfl, kq21, lq21, f21, y21, B21⟩⟩
    · have hq := fx_q g21 hq
      have kb21 := tkk_lt (T := T) (n := n) (p := pq21) hT
      have s621 := tks_le (T := T) (n := n) (p := pq21)
      refine xq_ret rfl rfl rfl ⟨fx_t (fx_t (fx_0) (fx_w g20 (fun _ _ => sS_c) (fun _ _ z => z))) (g21), Or.inl ⟨rfl, pq21, oq21, c21, lt21, le21, fun fs hf => ?_⟩⟩
      rw [show bo T n mem nn (nmW T NM) p o fs = qt T n (tke T n p) o (tks T n p) (tkn T n p) fs from by unfold bo qt; rw [if_pos (by omega)]]
      exact G21 fs hf
    · have hq := fx_q g21 hq
      refine xq_ret rfl rfl rfl ⟨fx_t (fx_t (fx_0) (fx_w g20 (fun _ _ => sS_c) (fun _ _ z => z))) (g21), Or.inr ⟨rfl, kq21, lq21, f21, y21, fun fs hf => ?_⟩⟩
      rw [show bo T n mem nn (nmW T NM) p o fs = qt T n (tke T n p) o (tks T n p) (tkn T n p) fs from by unfold bo qt; rw [if_pos (by omega)]]
      exact B21 fs hf
end XRM
end
section
section XRN
variable {T : Nat → Nat} {n mem nn : Nat} {NM : Nat → Nat × Nat}
set_option maxRecDepth 100000 in
set_option maxHeartbeats 4000000 in
theorem item_s {f : Nat} (io : sOne T n mem nn NM f) (iq : sQuota T n mem nn NM f) : sItem T n mem nn NM (f + 1) := by
  intro h p o d c0 o6 d12 hq
  have hT : ∀ k, k < n → T k < 256 := fun k hk' => (c0.1.2.2 k hk').1
  have kb := tkk_lt (T := T) (n := n) (p := p) hT
  have n6 := c0.1.2.1
  have s6 := tks_le (T := T) (n := n) (p := p)
  have mm := c0.2.2.2.2.1
  have n16 := c0.2.2.2.2.2.2.2.2.2.1.2.1
  have t9 : tkn T n p ≤ 999 := vf_999
  cases c1 : xe_c .ne (nI (tkk T n p)) (Int32.ofInt 3) with
  | true =>
    have z1 : (tkk T n p) ≠ 3 := nq_net (a := (tkk T n p)) (b := 3) (by omega) (by omega) c1
    refine xq_m 107 [0, 1] [(0, .ref 3), (1, .int (Int32.ofInt 1))] [.ref 3] h [true] 10 hq rfl ⟨(show xe_c .ne (xg 0 h.2.1 8 3) (Int32.ofInt 3) = true by rw [show (xg 0 h.2.1 8 3) = (nI (tkk T n p)) from c0.2.1.1]; exact c1), trivial⟩ (fun hq => ?_)
    refine xq_run hq rfl rfl (io _ _ _ _ c0 (by omega) (by omega) hq) ?_
    rintro v2 h2 ⟨g2, ⟨rfl, pq2, oq2, c2, lt2, le2, G2⟩ | ⟨rfl, kq2, lq2, f2, y2, B2⟩⟩
    · have hq := fx_q g2 hq
      have kb2 := tkk_lt (T := T) (n := n) (p := pq2) hT
      have s62 := tks_le (T := T) (n := n) (p := pq2)
      refine xq_n 117 [0, 1, 2] [(0, .ref 3), (1, .int (Int32.ofInt 1)), (2, .int (Int32.ofInt 1))] [.int (Int32.ofInt 1), .int (Int32.ofInt 5), .ref 4] h2 [] 7 hq rfl trivial (fun hq => ?_)
      refine xq_run hq rfl rfl (add_q hq) ?_
      rintro v3 h3 ⟨rfl, g3⟩
      have hq := fx_q g3 hq
      refine xq_n 121 [] [] [.int (Int32.ofInt 1)] h3 [] 3 hq rfl trivial (fun hq => ?_)
      refine xq_ret rfl rfl rfl ⟨fx_t (fx_t (fx_0) (g2)) (fx_w g3 (fun _ _ => aS_c) (fun _ _ z => z)), Or.inl ⟨rfl, pq2, oq2, ⟨ct_f (S := cS) (L := fN) (c2.1) (fx_w g3 (fun _ _ => aS_c) (fun _ _ z => z)) rfl (fun _ => rfl), tok_f (c2.2.1) g3 (fun _ => rfl), (fx_i g3 rfl).trans (c2.2.2.1), (fx_i g3 rfl).trans (c2.2.2.2.1), c0.2.2.2.2.1, (fx_i g3 rfl).trans (c2.2.2.2.2.2.1), by omega, (fx_i g3 rfl).trans (c2.2.2.2.2.2.2.2.1), by omega, cn_f (S := cS) (L := fN) (c2.2.2.2.2.2.2.2.2.2.1) (fx_w g3 (fun _ _ => aS_c) (fun _ _ z => z)) rfl (fun _ => rfl) (fun _ => rfl), (fx_i g3 rfl).trans (c2.2.2.2.2.2.2.2.2.2.2)⟩, lt2, le2, fun fs hf => ?_⟩⟩
      have es : stp T n mem nn (nmW T NM) (1, p, o, 2 :: fs) = bo T n mem nn (nmW T NM) p o (2 :: fs) := by
        rw [bgI]
        first | rw [if_pos (by omega)] | rw [if_neg (by omega)]
        try rfl
      exact Rc_r es (G2 (2 :: fs) (by rw [List.length_cons, hf]))
    · have hq := fx_q g2 hq
      refine xq_n 117 [0, 1, 2] [(0, .ref 3), (1, .int (Int32.ofInt 1)), (2, .int (Int32.ofInt 0))] [.int (Int32.ofInt 1), .int (Int32.ofInt 5), .ref 4] h2 [] 7 hq rfl trivial (fun hq => ?_)
      refine xq_run hq rfl rfl (add_q hq) ?_
      rintro v4 h4 ⟨rfl, g4⟩
      have hq := fx_q g4 hq
      refine xq_n 121 [] [] [.int (Int32.ofInt 0)] h4 [] 3 hq rfl trivial (fun hq => ?_)
      refine xq_ret rfl rfl rfl ⟨fx_t (fx_t (fx_0) (g2)) (fx_w g4 (fun _ _ => aS_c) (fun _ _ z => z)), Or.inr ⟨rfl, kq2, lq2, (fx_i g4 rfl).trans (f2), (fx_i g4 rfl).trans (y2), fun fs hf => ?_⟩⟩
      have es : stp T n mem nn (nmW T NM) (1, p, o, 2 :: fs) = bo T n mem nn (nmW T NM) p o (2 :: fs) := by
        rw [bgI]
        first | rw [if_pos (by omega)] | rw [if_neg (by omega)]
        try rfl
      exact Fl_r es (B2 (2 :: fs) (by rw [List.length_cons, hf]))
  | false =>
    have z1 : (tkk T n p) = 3 := nq_nef (a := (tkk T n p)) (b := 3) (by omega) (by omega) c1
    refine xq_m 34 [0, 1, 3, 4] [(0, .ref 3), (1, .int (Int32.ofInt 1)), (3, .int (xg 0 h.2.1 8 4)), (4, .int (xg 0 h.2.1 8 6))] [.ref 8] h [false] 19 hq rfl ⟨(show xe_c .ne (xg 0 h.2.1 8 3) (Int32.ofInt 3) = false by rw [show (xg 0 h.2.1 8 3) = (nI (tkk T n p)) from c0.2.1.1]; exact c1), trivial⟩ (fun hq => ?_)
    rw [show (xg 0 h.2.1 8 4) = (nI (tks T n p)) from c0.2.1.2.1]
    rw [show (xg 0 h.2.1 8 6) = (nI (tkn T n p)) from c0.2.1.2.2.2.1 (by omega)]
    have nz5 : tkk T n p ≠ 0 := by omega
    have le5 := tke_le nz5
    refine xq_run hq rfl rfl (adv_q hq hT (c0.1) (c0.2.2.1) ((c0.2.1.2.2.1 (by omega)).1) (by omega)) ?_
    rintro v5 h5 ⟨rfl, g5, t5⟩
    have hq := fx_q g5 hq
    have kb5 := tkk_lt (T := T) (n := n) (p := tke T n p) hT
    have s65 := tks_le (T := T) (n := n) (p := tke T n p)
    cases c6 : xe_c .ne (nI (tkk T n (tke T n p))) 42 with
    | true =>
      have z6 : (tkk T n (tke T n p)) ≠ 42 := nq_net (a := (tkk T n (tke T n p))) (b := 42) (by omega) (by omega) c6
      refine xq_n 73 [0, 1, 3, 4] [(0, .ref 3), (1, .int (Int32.ofInt 1)), (3, .int (nI (tks T n p))), (4, .int (nI (tkn T n p)))] [.float 6, .ref 8] h5 [true] 10 hq rfl ⟨(show xe_c .ne (xg 0 h5.2.1 8 3) 42 = true by rw [show (xg 0 h5.2.1 8 3) = (nI (tkk T n (tke T n p))) from t5.1]; exact c6), trivial⟩ (fun hq => ?_)
      refine xq_run hq rfl rfl (iw4_q (ct_f (S := cS) (L := fN) (c0.1) (fx_w g5 (fun _ _ => sS_c) (fun _ _ z => z)) rfl (fun _ => rfl)) (t5) hq) ?_
      rintro v7 h_v7 ⟨rfl, rfl⟩
      cases b8 : (ky T n (tke T n p) 4) with
      | true =>
        have db8 := of_decide_eq_true b8
        refine xq_n 83 [0, 1, 3, 4] [(0, .ref 3), (1, .int (Int32.ofInt 1)), (3, .int (nI (tks T n p))), (4, .int (nI (tkn T n p)))] [.int (nI (tkn T n p)), .int (nI (tks T n p)), .ref 3] h5 [false] 6 hq rfl ⟨rfl, trivial⟩ (fun hq => ?_)
        refine xq_run hq rfl rfl (iq _ _ _ _ (tks T n p) (tkn T n p) ⟨ct_f (S := cS) (L := fN) (c0.1) (fx_w g5 (fun _ _ => sS_c) (fun _ _ z => z)) rfl (fun _ => rfl), t5, (fx_i g5 rfl).trans (c0.2.2.1), (fx_i g5 rfl).trans (c0.2.2.2.1), c0.2.2.2.2.1, (fx_i g5 rfl).trans (c0.2.2.2.2.2.1), by omega, (fx_i g5 rfl).trans (c0.2.2.2.2.2.2.2.1), by omega, cn_f (S := cS) (L := fN) (c0.2.2.2.2.2.2.2.2.2.1) (fx_w g5 (fun _ _ => sS_c) (fun _ _ z => z)) rfl (fun _ => rfl) (fun _ => rfl), (fx_i g5 rfl).trans (c0.2.2.2.2.2.2.2.2.2.2)⟩ (by omega) (by omega) (by omega) hq) ?_
        rintro v9 h9 ⟨g9, ⟨rfl, pq9, oq9, c9, lt9, le9, G9⟩ | ⟨rfl, kq9, lq9, f9, y9, B9⟩⟩
        · have hq := fx_q g9 hq
          have kb9 := tkk_lt (T := T) (n := n) (p := pq9) hT
          have s69 := tks_le (T := T) (n := n) (p := pq9)
          refine xq_n 117 [0, 1, 2, 3, 4] [(0, .ref 3), (1, .int (Int32.ofInt 1)), (2, .int (Int32.ofInt 1)), (3, .int (nI (tks T n p))), (4, .int (nI (tkn T n p)))] [.int (Int32.ofInt 1), .int (Int32.ofInt 5), .ref 4] h9 [] 9 hq rfl trivial (fun hq => ?_)
          refine xq_run hq rfl rfl (add_q hq) ?_
          rintro v10 h10 ⟨rfl, g10⟩
          have hq := fx_q g10 hq
          refine xq_n 121 [] [] [.int (Int32.ofInt 1)] h10 [] 3 hq rfl trivial (fun hq => ?_)
          refine xq_ret rfl rfl rfl ⟨fx_t (fx_t (fx_t (fx_0) (fx_w g5 (fun _ _ => sS_c) (fun _ _ z => z))) (g9)) (fx_w g10 (fun _ _ => aS_c) (fun _ _ z => z)), Or.inl ⟨rfl, pq9, oq9, ⟨ct_f (S := cS) (L := fN) (c9.1) (fx_w g10 (fun _ _ => aS_c) (fun _ _ z => z)) rfl (fun _ => rfl), tok_f (c9.2.1) g10 (fun _ => rfl), (fx_i g10 rfl).trans (c9.2.2.1), (fx_i g10 rfl).trans (c9.2.2.2.1), c0.2.2.2.2.1, (fx_i g10 rfl).trans (c9.2.2.2.2.2.1), by omega, (fx_i g10 rfl).trans (c9.2.2.2.2.2.2.2.1), by omega, cn_f (S := cS) (L := fN) (c9.2.2.2.2.2.2.2.2.2.1) (fx_w g10 (fun _ _ => aS_c) (fun _ _ z => z)) rfl (fun _ => rfl) (fun _ => rfl), (fx_i g10 rfl).trans (c9.2.2.2.2.2.2.2.2.2.2)⟩, lt9, le9, fun fs hf => ?_⟩⟩
          have es : stp T n mem nn (nmW T NM) (1, p, o, 2 :: fs) = qt T n (tke T n p) o (tks T n p) (tkn T n p) (2 :: fs) := by
            rw [bgI]
            first | rw [if_pos (by omega)] | rw [if_neg (by omega)]
            unfold bi
            unfold qt
            repeat (first | rw [if_pos (show tkk T n (tke T n p) = 42 by omega)] | rw [if_neg (show ¬ tkk T n (tke T n p) = 42 by omega)] | rw [if_neg (show ¬ ky T n (tke T n p) 4 = false by rw [b8]; decide)] | rw [if_pos (show ky T n (tke T n p) 4 = false from b8)])
            try rfl
          exact Rc_r es (G9 (2 :: fs) (by rw [List.length_cons, hf]))
        · have hq := fx_q g9 hq
          refine xq_n 117 [0, 1, 2, 3, 4] [(0, .ref 3), (1, .int (Int32.ofInt 1)), (2, .int (Int32.ofInt 0)), (3, .int (nI (tks T n p))), (4, .int (nI (tkn T n p)))] [.int (Int32.ofInt 1), .int (Int32.ofInt 5), .ref 4] h9 [] 9 hq rfl trivial (fun hq => ?_)
          refine xq_run hq rfl rfl (add_q hq) ?_
          rintro v11 h11 ⟨rfl, g11⟩
          have hq := fx_q g11 hq
          refine xq_n 121 [] [] [.int (Int32.ofInt 0)] h11 [] 3 hq rfl trivial (fun hq => ?_)
          refine xq_ret rfl rfl rfl ⟨fx_t (fx_t (fx_t (fx_0) (fx_w g5 (fun _ _ => sS_c) (fun _ _ z => z))) (g9)) (fx_w g11 (fun _ _ => aS_c) (fun _ _ z => z)), Or.inr ⟨rfl, kq9, lq9, (fx_i g11 rfl).trans (f9), (fx_i g11 rfl).trans (y9), fun fs hf => ?_⟩⟩
          have es : stp T n mem nn (nmW T NM) (1, p, o, 2 :: fs) = qt T n (tke T n p) o (tks T n p) (tkn T n p) (2 :: fs) := by
            rw [bgI]
            first | rw [if_pos (by omega)] | rw [if_neg (by omega)]
            unfold bi
            unfold qt
            repeat (first | rw [if_pos (show tkk T n (tke T n p) = 42 by omega)] | rw [if_neg (show ¬ tkk T n (tke T n p) = 42 by omega)] | rw [if_neg (show ¬ ky T n (tke T n p) 4 = false by rw [b8]; decide)] | rw [if_pos (show ky T n (tke T n p) 4 = false from b8)])
            try rfl
          exact Fl_r es (B9 (2 :: fs) (by rw [List.length_cons, hf]))
      | false =>
        have db8 := of_decide_eq_false b8
        refine xq_n 99 [0, 1, 3, 4] [(0, .ref 3), (1, .int (Int32.ofInt 1)), (3, .int (nI (tks T n p))), (4, .int (nI (tkn T n p)))] [.int (xg 0 h5.2.1 8 4), .int (Int32.ofInt 1), .ref 3] h5 [true] 8 hq rfl ⟨rfl, trivial⟩ (fun hq => ?_)
        rw [show (xg 0 h5.2.1 8 4) = (nI (tks T n (tke T n p))) from t5.2.1]
        refine xq_run hq rfl rfl (fail_q (k := 1) (pl := (tks T n (tke T n p))) hq) ?_
        rintro v12 h12 ⟨rfl, g12, f12, l12⟩
        have hq := fx_q g12 hq
        refine xq_n 117 [0, 1, 2, 3, 4] [(0, .ref 3), (1, .int (Int32.ofInt 1)), (2, .int (Int32.ofInt 0)), (3, .int (nI (tks T n p))), (4, .int (nI (tkn T n p)))] [.int (Int32.ofInt 1), .int (Int32.ofInt 5), .ref 4] h12 [] 8 hq rfl trivial (fun hq => ?_)
        refine xq_run hq rfl rfl (add_q hq) ?_
        rintro v13 h13 ⟨rfl, g13⟩
        have hq := fx_q g13 hq
        refine xq_n 121 [] [] [.int (Int32.ofInt 0)] h13 [] 3 hq rfl trivial (fun hq => ?_)
        refine xq_ret rfl rfl rfl ⟨fx_t (fx_t (fx_t (fx_0) (fx_w g5 (fun _ _ => sS_c) (fun _ _ z => z))) (fx_w g12 (fun _ _ => fS_c) (fun _ _ z => z))) (fx_w g13 (fun _ _ => aS_c) (fun _ _ z => z)), Or.inr ⟨rfl, 1, tks T n (tke T n p), (fx_i g13 rfl).trans (f12), (fx_i g13 rfl).trans (l12), fun fs hf => ?_⟩⟩
        have es : stp T n mem nn (nmW T NM) (1, p, o, 2 :: fs) = .inr (1, tks T n (tke T n p)) := by
          rw [bgI]
          first | rw [if_pos (by omega)] | rw [if_neg (by omega)]
          unfold bi
          repeat (first | rw [if_pos (show tkk T n (tke T n p) = 42 by omega)] | rw [if_neg (show ¬ tkk T n (tke T n p) = 42 by omega)] | rw [if_neg (show ¬ ky T n (tke T n p) 4 = false by rw [b8]; decide)] | rw [if_pos (show ky T n (tke T n p) 4 = false from b8)])
          try rfl
        exact Fl_1 es
    | false =>
      have z6 : (tkk T n (tke T n p)) = 42 := nq_nef (a := (tkk T n (tke T n p))) (b := 42) (by omega) (by omega) c6
      refine xq_n 56 [0, 1, 3, 4] [(0, .ref 3), (1, .int (nI (tkn T n p))), (3, .int (nI (tks T n p))), (4, .int (nI (tkn T n p)))] [.ref 8] h5 [false] 11 hq rfl ⟨(show xe_c .ne (xg 0 h5.2.1 8 3) 42 = false by rw [show (xg 0 h5.2.1 8 3) = (nI (tkk T n (tke T n p))) from t5.1]; exact c6), trivial⟩ (fun hq => ?_)
      have nz14 : tkk T n (tke T n p) ≠ 0 := by omega
      have le14 := tke_le nz14
      refine xq_run hq rfl rfl (adv_q hq hT (ct_f (S := cS) (L := fN) (c0.1) (fx_w g5 (fun _ _ => sS_c) (fun _ _ z => z)) rfl (fun _ => rfl)) ((fx_i g5 rfl).trans (c0.2.2.1)) ((t5.2.2.1 (by omega)).1) (by omega)) ?_
      rintro v14 h14 ⟨rfl, g14, t14⟩
      have hq := fx_q g14 hq
      have kb14 := tkk_lt (T := T) (n := n) (p := tke T n (tke T n p)) hT
      have s614 := tks_le (T := T) (n := n) (p := tke T n (tke T n p))
      refine xq_n 60 [0, 1, 3, 4] [(0, .ref 3), (1, .int (nI (tkn T n p))), (3, .int (nI (tks T n p))), (4, .int (nI (tkn T n p)))] [.ref 3] h14 [] 3 hq rfl trivial (fun hq => ?_)
      refine xq_run hq rfl rfl (io _ _ _ _ ⟨ct_f (S := cS) (L := fN) (ct_f (S := cS) (L := fN) (c0.1) (fx_w g5 (fun _ _ => sS_c) (fun _ _ z => z)) rfl (fun _ => rfl)) (fx_w g14 (fun _ _ => sS_c) (fun _ _ z => z)) rfl (fun _ => rfl), t14, (fx_i g14 rfl).trans ((fx_i g5 rfl).trans (c0.2.2.1)), (fx_i g14 rfl).trans ((fx_i g5 rfl).trans (c0.2.2.2.1)), c0.2.2.2.2.1, (fx_i g14 rfl).trans ((fx_i g5 rfl).trans (c0.2.2.2.2.2.1)), by omega, (fx_i g14 rfl).trans ((fx_i g5 rfl).trans (c0.2.2.2.2.2.2.2.1)), by omega, cn_f (S := cS) (L := fN) (cn_f (S := cS) (L := fN) (c0.2.2.2.2.2.2.2.2.2.1) (fx_w g5 (fun _ _ => sS_c) (fun _ _ z => z)) rfl (fun _ => rfl) (fun _ => rfl)) (fx_w g14 (fun _ _ => sS_c) (fun _ _ z => z)) rfl (fun _ => rfl) (fun _ => rfl), (fx_i g14 rfl).trans ((fx_i g5 rfl).trans (c0.2.2.2.2.2.2.2.2.2.2))⟩ (by omega) (by omega) hq) ?_
      rintro v15 h15 ⟨g15, ⟨rfl, pq15, oq15, c15, lt15, le15, G15⟩ | ⟨rfl, kq15, lq15, f15, y15, B15⟩⟩
      · have hq := fx_q g15 hq
        have kb15 := tkk_lt (T := T) (n := n) (p := pq15) hT
        have s615 := tks_le (T := T) (n := n) (p := pq15)
        refine xq_n 117 [0, 1, 2, 3, 4] [(0, .ref 3), (1, .int (nI (tkn T n p))), (2, .int (Int32.ofInt 1)), (3, .int (nI (tks T n p))), (4, .int (nI (tkn T n p)))] [.int (nI (tkn T n p)), .int (Int32.ofInt 5), .ref 4] h15 [] 9 hq rfl trivial (fun hq => ?_)
        refine xq_run hq rfl rfl (add_q hq) ?_
        rintro v16 h16 ⟨rfl, g16⟩
        have hq := fx_q g16 hq
        refine xq_n 121 [] [] [.int (Int32.ofInt 1)] h16 [] 3 hq rfl trivial (fun hq => ?_)
        refine xq_ret rfl rfl rfl ⟨fx_t (fx_t (fx_t (fx_t (fx_0) (fx_w g5 (fun _ _ => sS_c) (fun _ _ z => z))) (fx_w g14 (fun _ _ => sS_c) (fun _ _ z => z))) (g15)) (fx_w g16 (fun _ _ => aS_c) (fun _ _ z => z)), Or.inl ⟨rfl, pq15, oq15, ⟨ct_f (S := cS) (L := fN) (c15.1) (fx_w g16 (fun _ _ => aS_c) (fun _ _ z => z)) rfl (fun _ => rfl), tok_f (c15.2.1) g16 (fun _ => rfl), (fx_i g16 rfl).trans (c15.2.2.1), (fx_i g16 rfl).trans (c15.2.2.2.1), c0.2.2.2.2.1, (fx_i g16 rfl).trans (c15.2.2.2.2.2.1), by omega, (fx_i g16 rfl).trans (c15.2.2.2.2.2.2.2.1), by omega, cn_f (S := cS) (L := fN) (c15.2.2.2.2.2.2.2.2.2.1) (fx_w g16 (fun _ _ => aS_c) (fun _ _ z => z)) rfl (fun _ => rfl) (fun _ => rfl), (fx_i g16 rfl).trans (c15.2.2.2.2.2.2.2.2.2.2)⟩, lt15, le15, fun fs hf => ?_⟩⟩
        have es : stp T n mem nn (nmW T NM) (1, p, o, 2 :: fs) = bo T n mem nn (nmW T NM) (tke T n (tke T n p)) o (2 :: fs) := by
          rw [bgI]
          first | rw [if_pos (by omega)] | rw [if_neg (by omega)]
          unfold bi
          repeat (first | rw [if_pos (show tkk T n (tke T n p) = 42 by omega)] | rw [if_neg (show ¬ tkk T n (tke T n p) = 42 by omega)])
          try rfl
        exact Rc_r es (G15 (2 :: fs) (by rw [List.length_cons, hf]))
      · have hq := fx_q g15 hq
        refine xq_n 117 [0, 1, 2, 3, 4] [(0, .ref 3), (1, .int (nI (tkn T n p))), (2, .int (Int32.ofInt 0)), (3, .int (nI (tks T n p))), (4, .int (nI (tkn T n p)))] [.int (nI (tkn T n p)), .int (Int32.ofInt 5), .ref 4] h15 [] 9 hq rfl trivial (fun hq => ?_)
        refine xq_run hq rfl rfl (add_q hq) ?_
        rintro v17 h17 ⟨rfl, g17⟩
        have hq := fx_q g17 hq
        refine xq_n 121 [] [] [.int (Int32.ofInt 0)] h17 [] 3 hq rfl trivial (fun hq => ?_)
        refine xq_ret rfl rfl rfl ⟨fx_t (fx_t (fx_t (fx_t (fx_0) (fx_w g5 (fun _ _ => sS_c) (fun _ _ z => z))) (fx_w g14 (fun _ _ => sS_c) (fun _ _ z => z))) (g15)) (fx_w g17 (fun _ _ => aS_c) (fun _ _ z => z)), Or.inr ⟨rfl, kq15, lq15, (fx_i g17 rfl).trans (f15), (fx_i g17 rfl).trans (y15), fun fs hf => ?_⟩⟩
        have es : stp T n mem nn (nmW T NM) (1, p, o, 2 :: fs) = bo T n mem nn (nmW T NM) (tke T n (tke T n p)) o (2 :: fs) := by
          rw [bgI]
          first | rw [if_pos (by omega)] | rw [if_neg (by omega)]
          unfold bi
          repeat (first | rw [if_pos (show tkk T n (tke T n p) = 42 by omega)] | rw [if_neg (show ¬ tkk T n (tke T n p) = 42 by omega)])
          try rfl
        exact Fl_r es (B15 (2 :: fs) (by rw [List.length_cons, hf]))
set_option maxRecDepth 100000 in
set_option maxHeartbeats 4000000 in
theorem all_z {f : Nat} {x : Int32} {h : xh_H} (hq : a_rq a_tb h) : xq f xi_X4_readAll xmi_X4_readAll 7 [(0, .ref 3), (1, .int (Int32.ofInt 0)), (2, .int x)] [] h (fun v h' => h = h' ∧ v = some (.int 0)) := by
  cases c1 : xe_c .gt x 120 with
  | true =>
    refine xq_n 57 [] [] [.int (Int32.ofInt 0)] h [true] 6 hq rfl ⟨c1, trivial⟩ (fun hq => ?_)
    exact xq_ret rfl rfl rfl ⟨rfl, rfl⟩
  | false =>
    refine xq_n 57 [] [] [.int (Int32.ofInt 0)] h [false, true] 8 hq rfl ⟨c1, (by decide), trivial⟩ (fun hq => ?_)
    exact xq_ret rfl rfl rfl ⟨rfl, rfl⟩
set_option maxRecDepth 100000 in
set_option maxHeartbeats 4000000 in
theorem all_lp {f p o d : Nat} {h0 : xh_H} (io : sOne T n mem nn NM f) (o6 : o ≤ 120) (d12 : d ≤ 12) : ∀ g, g ≤ f → ∀ (h : xh_H) (i p1 o1 : Nat), cr h T n mem nn NM p1 o1 d → fx cS fN h0 h → o + 1 + i ≤ o1 → o1 ≤ 120 → (∀ (t : Nat) (fs : List Nat), t ≠ 2 → fs.length = d → Rc T n mem nn (nmW T NM) (1, p, o, t :: fs) (0, p1, o1, t :: fs)) → a_rq a_tb h → xq g xi_X4_readAll xmi_X4_readAll 7 [(0, .ref 3), (1, .int (Int32.ofInt 1)), (2, .int (nI i))] [] h (rO h0 T n mem nn NM o d (fun p' o' => ky T n p' 2 = false ∧ ∀ (t : Nat) (fs : List Nat), t ≠ 2 → fs.length = d → Rc T n mem nn (nmW T NM) (1, p, o, t :: fs) (0, p', o', t :: fs)) (fun e => ∀ (t : Nat) (fs : List Nat), t ≠ 2 → fs.length = d → Fl T n mem nn (nmW T NM) (1, p, o, t :: fs) e)) := by
  intro g
  induction g with
  | zero => intros; exact xq_0
  | succ g ihg =>
    intro hg h i p1 o1 c0 g0 hi ho GG hq
    have hT : ∀ k, k < n → T k < 256 := fun k hk' => (c0.1.2.2 k hk').1
    have kb := tkk_lt (T := T) (n := n) (p := p1) hT
    have n6 := c0.1.2.1
    have s6 := tks_le (T := T) (n := n) (p := p1)
    have mm := c0.2.2.2.2.1
    have n16 := c0.2.2.2.2.2.2.2.2.2.1.2.1
    cases c1 : xe_c .gt (nI i) 120 with
    | true =>
      have z1 : i > 120 := nq_gtt (a := i) (b := 120) (by omega) (by omega) c1
      omega
    | false =>
      have z1 : i ≤ 120 := nq_gtf (a := i) (b := 120) (by omega) (by omega) c1
      refine xq_m 23 [0, 1, 2] [(0, .ref 3), (1, .int (Int32.ofInt 1)), (2, .int (nI i))] [.float 4, .ref 8] h [false, false] 10 hq rfl ⟨c1, (by decide), trivial⟩ (fun hq => ?_)
      refine xq_run hq rfl rfl (iw2_q (c0.1) (c0.2.1) hq) ?_
      rintro v2 h_v2 ⟨rfl, rfl⟩
      cases b3 : (ky T n p1 2) with
      | true =>
        have db3 := of_decide_eq_true b3
        have es : ∀ {t : Nat} {fs : List Nat}, t ≠ 2 → stp T n mem nn (nmW T NM) (0, p1, o1, t :: fs) = .inl (1, tke T n p1, o1, t :: fs) := fun {t fs} ht => by rw [enE]; unfold en; rw [if_neg (show ¬ (t :: fs).head? = some 2 from fun z => ht (Option.some.inj z)), if_pos b3]
        refine xq_n 33 [0, 1, 2] [(0, .ref 3), (1, .int (Int32.ofInt 1)), (2, .int (nI i))] [.ref 8] h [false] 5 hq rfl ⟨rfl, trivial⟩ (fun hq => ?_)
        have nz4 : tkk T n p1 ≠ 0 := by omega
        have le4 := tke_le nz4
        refine xq_run hq rfl rfl (adv_q hq hT (c0.1) (c0.2.2.1) ((c0.2.1.2.2.1 (by omega)).1) (by omega)) ?_
        rintro v4 h4 ⟨rfl, g4, t4⟩
        have hq := fx_q g4 hq
        have kb4 := tkk_lt (T := T) (n := n) (p := tke T n p1) hT
        have s64 := tks_le (T := T) (n := n) (p := tke T n p1)
        refine xq_n 37 [0, 1, 2] [(0, .ref 3), (1, .int (Int32.ofInt 1)), (2, .int (nI i))] [.ref 3] h4 [] 3 hq rfl trivial (fun hq => ?_)
        refine xq_run hq rfl rfl (xq_le (by omega) (io _ _ _ _ ⟨ct_f (S := cS) (L := fN) (c0.1) (fx_w g4 (fun _ _ => sS_c) (fun _ _ z => z)) rfl (fun _ => rfl), t4, (fx_i g4 rfl).trans (c0.2.2.1), (fx_i g4 rfl).trans (c0.2.2.2.1), c0.2.2.2.2.1, (fx_i g4 rfl).trans (c0.2.2.2.2.2.1), by omega, (fx_i g4 rfl).trans (c0.2.2.2.2.2.2.2.1), by omega, cn_f (S := cS) (L := fN) (c0.2.2.2.2.2.2.2.2.2.1) (fx_w g4 (fun _ _ => sS_c) (fun _ _ z => z)) rfl (fun _ => rfl) (fun _ => rfl), (fx_i g4 rfl).trans (c0.2.2.2.2.2.2.2.2.2.2)⟩ (by omega) (by omega) hq)) ?_
        rintro v5 h5 ⟨g5, ⟨rfl, pq5, oq5, c5, lt5, le5, G5⟩ | ⟨rfl, kq5, lq5, f5, y5, B5⟩⟩
        · have hq := fx_q g5 hq
          have kb5 := tkk_lt (T := T) (n := n) (p := pq5) hT
          have s65 := tks_le (T := T) (n := n) (p := pq5)
          refine xq_n 47 [0, 1, 2] [(0, .ref 3), (1, .int (Int32.ofInt 1)), (2, .int (nI i))] [.int (Int32.ofInt 0), .int (Int32.ofInt 2), .ref 4] h5 [] 7 hq rfl trivial (fun hq => ?_)
          refine xq_run hq rfl rfl (add_q hq) ?_
          rintro v6 h6 ⟨rfl, g6⟩
          have hq := fx_q g6 hq
          refine xq_n 7 [0, 1, 2] [(0, .ref 3), (1, .int (Int32.ofInt 1)), (2, .int ((nI i) + Int32.ofInt 1))] [] h6 [] 4 hq rfl trivial (fun hq => ?_)
          rw [show ((nI i) + Int32.ofInt 1) = nI (i + 1) from nI_1 _]
          exact ihg (by omega) _ (i + 1) pq5 oq5 ⟨ct_f (S := cS) (L := fN) (c5.1) (fx_w g6 (fun _ _ => aS_c) (fun _ _ z => z)) rfl (fun _ => rfl), tok_f (c5.2.1) g6 (fun _ => rfl), (fx_i g6 rfl).trans (c5.2.2.1), (fx_i g6 rfl).trans (c5.2.2.2.1), c0.2.2.2.2.1, (fx_i g6 rfl).trans (c5.2.2.2.2.2.1), by omega, (fx_i g6 rfl).trans (c5.2.2.2.2.2.2.2.1), by omega, cn_f (S := cS) (L := fN) (c5.2.2.2.2.2.2.2.2.2.1) (fx_w g6 (fun _ _ => aS_c) (fun _ _ z => z)) rfl (fun _ => rfl) (fun _ => rfl), (fx_i g6 rfl).trans (c5.2.2.2.2.2.2.2.2.2.2)⟩ (fx_t (fx_t (fx_t (g0) (fx_w g4 (fun _ _ => sS_c) (fun _ _ z => z))) (g5)) (fx_w g6 (fun _ _ => aS_c) (fun _ _ z => z))) (by omega) (by omega) (fun t fs ht hf => Rc_t (GG t fs ht hf) (Rc_t (Rc_1 (es ht)) (Rc_r (bgO ht) (G5 (t :: fs) (by rw [List.length_cons, hf]))))) hq
        · have hq := fx_q g5 hq
          refine xq_n 47 [0, 1, 2] [(0, .ref 3), (1, .int (Int32.ofInt 0)), (2, .int (nI i))] [.int (Int32.ofInt 0), .int (Int32.ofInt 2), .ref 4] h5 [] 7 hq rfl trivial (fun hq => ?_)
          refine xq_run hq rfl rfl (add_q hq) ?_
          rintro v7 h7 ⟨rfl, g7⟩
          have hq := fx_q g7 hq
          refine xq_n 7 [0, 1, 2] [(0, .ref 3), (1, .int (Int32.ofInt 0)), (2, .int ((nI i) + Int32.ofInt 1))] [] h7 [] 4 hq rfl trivial (fun hq => ?_)
          rw [show ((nI i) + Int32.ofInt 1) = nI (i + 1) from nI_1 _]
          refine xq_mono (all_z hq) (fun v h' e => ?_)
          obtain ⟨rfl, rfl⟩ := e
          exact ⟨fx_t (fx_t (fx_t (g0) (fx_w g4 (fun _ _ => sS_c) (fun _ _ z => z))) (g5)) (fx_w g7 (fun _ _ => aS_c) (fun _ _ z => z)), Or.inr ⟨rfl, kq5, lq5, (fx_i g7 rfl).trans (f5), (fx_i g7 rfl).trans (y5), fun t fs ht hf => Fl_t (Rc_t (GG t fs ht hf) (Rc_1 (es ht))) (Fl_r (bgO ht) (B5 (t :: fs) (by rw [List.length_cons, hf])))⟩⟩
      | false =>
        have db3 := of_decide_eq_false b3
        refine xq_n 57 [] [] [.int (Int32.ofInt 1)] h [true] 4 hq rfl ⟨rfl, trivial⟩ (fun hq => ?_)
        exact xq_ret rfl rfl rfl ⟨g0, Or.inl ⟨rfl, p1, o1, c0, by omega, by omega, b3, GG⟩⟩
set_option maxRecDepth 100000 in
set_option maxHeartbeats 4000000 in
theorem all_s {f : Nat} (io : sOne T n mem nn NM f) : sAll T n mem nn NM (f + 1) := by
  intro h p o d c0 o6 d12 hq
  have hT : ∀ k, k < n → T k < 256 := fun k hk' => (c0.1.2.2 k hk').1
  have kb := tkk_lt (T := T) (n := n) (p := p) hT
  have n6 := c0.1.2.1
  have s6 := tks_le (T := T) (n := n) (p := p)
  have mm := c0.2.2.2.2.1
  have n16 := c0.2.2.2.2.2.2.2.2.2.1.2.1
  refine xq_m 1 [0] [(0, .ref 3)] [.ref 3] h [] 3 hq rfl trivial (fun hq => ?_)
  refine xq_run hq rfl rfl (io _ _ _ _ c0 (by omega) (by omega) hq) ?_
  rintro v1 h1 ⟨g1, ⟨rfl, pq1, oq1, c1, lt1, le1, G1⟩ | ⟨rfl, kq1, lq1, f1, y1, B1⟩⟩
  · have hq := fx_q g1 hq
    have kb1 := tkk_lt (T := T) (n := n) (p := pq1) hT
    have s61 := tks_le (T := T) (n := n) (p := pq1)
    refine xq_n 7 [0, 1, 2] [(0, .ref 3), (1, .int (Int32.ofInt 1)), (2, .int (Int32.ofInt 0))] [] h1 [] 5 hq rfl trivial (fun hq => ?_)
    exact all_lp io o6 d12 f (Nat.le_refl _) _ 0 pq1 oq1 c1 (fx_t (fx_0) (g1)) (by omega) (by omega) (fun t fs ht hf => Rc_r (bgO ht) (G1 (t :: fs) (by rw [List.length_cons, hf]))) hq
  · have hq := fx_q g1 hq
    refine xq_n 7 [0, 1, 2] [(0, .ref 3), (1, .int (Int32.ofInt 0)), (2, .int (Int32.ofInt 0))] [] h1 [] 5 hq rfl trivial (fun hq => ?_)
    refine xq_mono (all_z hq) (fun v h' e => ?_)
    obtain ⟨rfl, rfl⟩ := e
    exact ⟨fx_t (fx_0) (g1), Or.inr ⟨rfl, kq1, lq1, f1, y1, fun t fs ht hf => Fl_r (bgO ht) (B1 (t :: fs) (by rw [List.length_cons, hf]))⟩⟩
set_option maxRecDepth 100000 in
set_option maxHeartbeats 4000000 in
theorem rul_z {f : Nat} {x : Int32} {h : xh_H} (hq : a_rq a_tb h) : xq f xi_X4_readRule xmi_X4_readRule 7 [(0, .ref 3), (1, .int (Int32.ofInt 0)), (2, .int x)] [] h (fun v h' => h = h' ∧ v = some (.int 0)) := by
  cases c1 : xe_c .gt x 120 with
  | true =>
    refine xq_n 57 [] [] [.int (Int32.ofInt 0)] h [true] 6 hq rfl ⟨c1, trivial⟩ (fun hq => ?_)
    exact xq_ret rfl rfl rfl ⟨rfl, rfl⟩
  | false =>
    refine xq_n 57 [] [] [.int (Int32.ofInt 0)] h [false, true] 8 hq rfl ⟨c1, (by decide), trivial⟩ (fun hq => ?_)
    exact xq_ret rfl rfl rfl ⟨rfl, rfl⟩
set_option maxRecDepth 100000 in
set_option maxHeartbeats 4000000 in
theorem rul_lp {f p o d : Nat} {h0 : xh_H} (ia : sAll T n mem nn NM f) (o6 : o ≤ 120) (d12 : d ≤ 12) : ∀ g, g ≤ f → ∀ (h : xh_H) (i p1 o1 : Nat), cr h T n mem nn NM p1 o1 d → fx cS fN h0 h → o + 1 + i ≤ o1 → o1 ≤ 120 → ky T n p1 2 = false → (∀ (t : Nat) (fs : List Nat), t ≠ 2 → fs.length = d → Rc T n mem nn (nmW T NM) (1, p, o, t :: fs) (0, p1, o1, t :: fs)) → a_rq a_tb h → xq g xi_X4_readRule xmi_X4_readRule 7 [(0, .ref 3), (1, .int (Int32.ofInt 1)), (2, .int (nI i))] [] h (rO h0 T n mem nn NM o d (fun p' o' => ky T n p' 2 = false ∧ ky T n p' 3 = false ∧ ∀ (t : Nat) (fs : List Nat), t ≠ 2 → fs.length = d → Rc T n mem nn (nmW T NM) (1, p, o, t :: fs) (0, p', o', t :: fs)) (fun e => ∀ (t : Nat) (fs : List Nat), t ≠ 2 → fs.length = d → Fl T n mem nn (nmW T NM) (1, p, o, t :: fs) e)) := by
  intro g
  induction g with
  | zero => intros; exact xq_0
  | succ g ihg =>
    intro hg h i p1 o1 c0 g0 hi ho k2 GG hq
    have hT : ∀ k, k < n → T k < 256 := fun k hk' => (c0.1.2.2 k hk').1
    have kb := tkk_lt (T := T) (n := n) (p := p1) hT
    have n6 := c0.1.2.1
    have s6 := tks_le (T := T) (n := n) (p := p1)
    have mm := c0.2.2.2.2.1
    have n16 := c0.2.2.2.2.2.2.2.2.2.1.2.1
    cases c1 : xe_c .gt (nI i) 120 with
    | true =>
      have z1 : i > 120 := nq_gtt (a := i) (b := 120) (by omega) (by omega) c1
      omega
    | false =>
      have z1 : i ≤ 120 := nq_gtf (a := i) (b := 120) (by omega) (by omega) c1
      refine xq_m 23 [0, 1, 2] [(0, .ref 3), (1, .int (Int32.ofInt 1)), (2, .int (nI i))] [.float 5, .ref 8] h [false, false] 10 hq rfl ⟨c1, (by decide), trivial⟩ (fun hq => ?_)
      refine xq_run hq rfl rfl (iw3_q (c0.1) (c0.2.1) hq) ?_
      rintro v2 h_v2 ⟨rfl, rfl⟩
      cases b3 : (ky T n p1 3) with
      | true =>
        have db3 := of_decide_eq_true b3
        have es : ∀ {t : Nat} {fs : List Nat}, t ≠ 2 → stp T n mem nn (nmW T NM) (0, p1, o1, t :: fs) = .inl (1, tke T n p1, o1, t :: fs) := fun {t fs} ht => by rw [enE]; unfold en; rw [if_neg (show ¬ (t :: fs).head? = some 2 from fun z => ht (Option.some.inj z)), if_neg (by rw [k2]; decide), if_pos b3]
        refine xq_n 33 [0, 1, 2] [(0, .ref 3), (1, .int (Int32.ofInt 1)), (2, .int (nI i))] [.ref 8] h [false] 5 hq rfl ⟨rfl, trivial⟩ (fun hq => ?_)
        have nz4 : tkk T n p1 ≠ 0 := by omega
        have le4 := tke_le nz4
        refine xq_run hq rfl rfl (adv_q hq hT (c0.1) (c0.2.2.1) ((c0.2.1.2.2.1 (by omega)).1) (by omega)) ?_
        rintro v4 h4 ⟨rfl, g4, t4⟩
        have hq := fx_q g4 hq
        have kb4 := tkk_lt (T := T) (n := n) (p := tke T n p1) hT
        have s64 := tks_le (T := T) (n := n) (p := tke T n p1)
        refine xq_n 37 [0, 1, 2] [(0, .ref 3), (1, .int (Int32.ofInt 1)), (2, .int (nI i))] [.ref 3] h4 [] 3 hq rfl trivial (fun hq => ?_)
        refine xq_run hq rfl rfl (xq_le (by omega) (ia _ _ _ _ ⟨ct_f (S := cS) (L := fN) (c0.1) (fx_w g4 (fun _ _ => sS_c) (fun _ _ z => z)) rfl (fun _ => rfl), t4, (fx_i g4 rfl).trans (c0.2.2.1), (fx_i g4 rfl).trans (c0.2.2.2.1), c0.2.2.2.2.1, (fx_i g4 rfl).trans (c0.2.2.2.2.2.1), by omega, (fx_i g4 rfl).trans (c0.2.2.2.2.2.2.2.1), by omega, cn_f (S := cS) (L := fN) (c0.2.2.2.2.2.2.2.2.2.1) (fx_w g4 (fun _ _ => sS_c) (fun _ _ z => z)) rfl (fun _ => rfl) (fun _ => rfl), (fx_i g4 rfl).trans (c0.2.2.2.2.2.2.2.2.2.2)⟩ (by omega) (by omega) hq)) ?_
        rintro v5 h5 ⟨g5, ⟨rfl, pq5, oq5, c5, lt5, le5, G5⟩ | ⟨rfl, kq5, lq5, f5, y5, B5⟩⟩
        · have hq := fx_q g5 hq
          have kb5 := tkk_lt (T := T) (n := n) (p := pq5) hT
          have s65 := tks_le (T := T) (n := n) (p := pq5)
          refine xq_n 47 [0, 1, 2] [(0, .ref 3), (1, .int (Int32.ofInt 1)), (2, .int (nI i))] [.int (Int32.ofInt 0), .int (Int32.ofInt 3), .ref 4] h5 [] 7 hq rfl trivial (fun hq => ?_)
          refine xq_run hq rfl rfl (add_q hq) ?_
          rintro v6 h6 ⟨rfl, g6⟩
          have hq := fx_q g6 hq
          refine xq_n 7 [0, 1, 2] [(0, .ref 3), (1, .int (Int32.ofInt 1)), (2, .int ((nI i) + Int32.ofInt 1))] [] h6 [] 4 hq rfl trivial (fun hq => ?_)
          rw [show ((nI i) + Int32.ofInt 1) = nI (i + 1) from nI_1 _]
          exact ihg (by omega) _ (i + 1) pq5 oq5 ⟨ct_f (S := cS) (L := fN) (c5.1) (fx_w g6 (fun _ _ => aS_c) (fun _ _ z => z)) rfl (fun _ => rfl), tok_f (c5.2.1) g6 (fun _ => rfl), (fx_i g6 rfl).trans (c5.2.2.1), (fx_i g6 rfl).trans (c5.2.2.2.1), c0.2.2.2.2.1, (fx_i g6 rfl).trans (c5.2.2.2.2.2.1), by omega, (fx_i g6 rfl).trans (c5.2.2.2.2.2.2.2.1), by omega, cn_f (S := cS) (L := fN) (c5.2.2.2.2.2.2.2.2.2.1) (fx_w g6 (fun _ _ => aS_c) (fun _ _ z => z)) rfl (fun _ => rfl) (fun _ => rfl), (fx_i g6 rfl).trans (c5.2.2.2.2.2.2.2.2.2.2)⟩ (fx_t (fx_t (fx_t (g0) (fx_w g4 (fun _ _ => sS_c) (fun _ _ z => z))) (g5)) (fx_w g6 (fun _ _ => aS_c) (fun _ _ z => z))) (by omega) (by omega) G5.1 (fun t fs ht hf => Rc_t (GG t fs ht hf) (Rc_t (Rc_1 (es ht)) (G5.2 t fs ht hf))) hq
        · have hq := fx_q g5 hq
          refine xq_n 47 [0, 1, 2] [(0, .ref 3), (1, .int (Int32.ofInt 0)), (2, .int (nI i))] [.int (Int32.ofInt 0), .int (Int32.ofInt 3), .ref 4] h5 [] 7 hq rfl trivial (fun hq => ?_)
          refine xq_run hq rfl rfl (add_q hq) ?_
          rintro v7 h7 ⟨rfl, g7⟩
          have hq := fx_q g7 hq
          refine xq_n 7 [0, 1, 2] [(0, .ref 3), (1, .int (Int32.ofInt 0)), (2, .int ((nI i) + Int32.ofInt 1))] [] h7 [] 4 hq rfl trivial (fun hq => ?_)
          rw [show ((nI i) + Int32.ofInt 1) = nI (i + 1) from nI_1 _]
          refine xq_mono (rul_z hq) (fun v h' e => ?_)
          obtain ⟨rfl, rfl⟩ := e
          exact ⟨fx_t (fx_t (fx_t (g0) (fx_w g4 (fun _ _ => sS_c) (fun _ _ z => z))) (g5)) (fx_w g7 (fun _ _ => aS_c) (fun _ _ z => z)), Or.inr ⟨rfl, kq5, lq5, (fx_i g7 rfl).trans (f5), (fx_i g7 rfl).trans (y5), fun t fs ht hf => Fl_t (Rc_t (GG t fs ht hf) (Rc_1 (es ht))) (B5 t fs ht hf)⟩⟩
      | false =>
        have db3 := of_decide_eq_false b3
        refine xq_n 57 [] [] [.int (Int32.ofInt 1)] h [true] 4 hq rfl ⟨rfl, trivial⟩ (fun hq => ?_)
        exact xq_ret rfl rfl rfl ⟨g0, Or.inl ⟨rfl, p1, o1, c0, by omega, by omega, k2, b3, GG⟩⟩
set_option maxRecDepth 100000 in
set_option maxHeartbeats 4000000 in
theorem rul_s {f : Nat} (ia : sAll T n mem nn NM f) : sRule T n mem nn NM (f + 1) := by
  intro h p o d c0 o6 d12 hq
  have hT : ∀ k, k < n → T k < 256 := fun k hk' => (c0.1.2.2 k hk').1
  have kb := tkk_lt (T := T) (n := n) (p := p) hT
  have n6 := c0.1.2.1
  have s6 := tks_le (T := T) (n := n) (p := p)
  have mm := c0.2.2.2.2.1
  have n16 := c0.2.2.2.2.2.2.2.2.2.1.2.1
  refine xq_m 1 [0] [(0, .ref 3)] [.ref 3] h [] 3 hq rfl trivial (fun hq => ?_)
  refine xq_run hq rfl rfl (ia _ _ _ _ c0 (by omega) (by omega) hq) ?_
  rintro v1 h1 ⟨g1, ⟨rfl, pq1, oq1, c1, lt1, le1, G1⟩ | ⟨rfl, kq1, lq1, f1, y1, B1⟩⟩
  · have hq := fx_q g1 hq
    have kb1 := tkk_lt (T := T) (n := n) (p := pq1) hT
    have s61 := tks_le (T := T) (n := n) (p := pq1)
    refine xq_n 7 [0, 1, 2] [(0, .ref 3), (1, .int (Int32.ofInt 1)), (2, .int (Int32.ofInt 0))] [] h1 [] 5 hq rfl trivial (fun hq => ?_)
    exact rul_lp ia o6 d12 f (Nat.le_refl _) _ 0 pq1 oq1 c1 (fx_t (fx_0) (g1)) (by omega) (by omega) G1.1 (fun t fs ht hf => G1.2 t fs ht hf) hq
  · have hq := fx_q g1 hq
    refine xq_n 7 [0, 1, 2] [(0, .ref 3), (1, .int (Int32.ofInt 0)), (2, .int (Int32.ofInt 0))] [] h1 [] 5 hq rfl trivial (fun hq => ?_)
    refine xq_mono (rul_z hq) (fun v h' e => ?_)
    obtain ⟨rfl, rfl⟩ := e
    exact ⟨fx_t (fx_0) (g1), Or.inr ⟨rfl, kq1, lq1, f1, y1, fun t fs ht hf => B1 t fs ht hf⟩⟩
end XRN
end
section
section XRO
variable {T : Nat → Nat} {n mem nn : Nat} {NM : Nat → Nat × Nat}
def zS (c k : Nat) : Bool := aS_ c k || (Nat.beq c 3 && Nat.beq k 6)
theorem zS_c {c k : Nat} (h : cS c k = false) : zS c k = false := by
  have h1 := aS_c h
  unfold zS
  rw [h1]
  unfold cS at h
  have h2 := (or_f (or_f h).2).1
  cases h3 : Nat.beq c 3 with
  | false => rfl
  | true =>
    rw [h3] at h2
    have h2 : (Nat.beq k 5 || (Nat.beq k 6 || (Nat.beq k 8 || Nat.beq k 9))) = false := h2
    show (false || Nat.beq k 6) = false
    rw [(or_f (or_f h2).2).1]
    rfl
set_option maxRecDepth 100000 in
set_option maxHeartbeats 4000000 in
theorem qz_q {f : Nat} {x2 x4 : Int32} {h : xh_H} (hq : a_rq a_tb h) : xq f xi_X4_readQuota xmi_X4_readQuota 57 [(0, .ref 3), (2, .int x2), (3, .int (Int32.ofInt 0)), (4, .int x4)] [] h (fun v h' => v = some (.int 0) ∧ fx zS fN h h') := by
  cases c1 : xe_c .gt x4 120 with
  | true =>
    refine xq_n 98 [0, 2, 3, 4] [(0, .ref 3), (2, .int x2), (3, .int (Int32.ofInt 0)), (4, .int x4)] [.int x2, .int 6, .ref 4] h [true] 9 hq rfl ⟨c1, trivial⟩ (fun hq => ?_)
    refine xq_run hq rfl rfl (add_q hq) ?_
    rintro v2 h2 ⟨rfl, g2⟩
    have hq := fx_q g2 hq
    refine xq_n 129 [] [] [.int (Int32.ofInt 0)] (xh_ui h2 3 6 ((xg 0 h2.2.1 3 6) - (Int32.ofInt 1))) [true] 11 hq rfl ⟨(by decide), trivial⟩ (fun _ => ?_)
    rw [show (xg 0 h2.2.1 3 6) = (xg 0 h.2.1 3 6) from fx_i g2 rfl]
    have hq : a_rq a_tb (xh_ui h2 3 6 ((xg 0 h.2.1 3 6) - (Int32.ofInt 1))) := a_rq_ui hq
    exact xq_ret rfl rfl rfl ⟨rfl, fx_ui (fx_t (fx_0) (fx_w g2 (fun _ _ z => (or_f z).1) (fun _ _ z => z))) rfl⟩
  | false =>
    refine xq_n 98 [0, 2, 3, 4] [(0, .ref 3), (2, .int x2), (3, .int (Int32.ofInt 0)), (4, .int x4)] [.int x2, .int 6, .ref 4] h [false, true] 11 hq rfl ⟨c1, (by decide), trivial⟩ (fun hq => ?_)
    refine xq_run hq rfl rfl (add_q hq) ?_
    rintro v3 h3 ⟨rfl, g3⟩
    have hq := fx_q g3 hq
    refine xq_n 129 [] [] [.int (Int32.ofInt 0)] (xh_ui h3 3 6 ((xg 0 h3.2.1 3 6) - (Int32.ofInt 1))) [true] 11 hq rfl ⟨(by decide), trivial⟩ (fun _ => ?_)
    rw [show (xg 0 h3.2.1 3 6) = (xg 0 h.2.1 3 6) from fx_i g3 rfl]
    have hq : a_rq a_tb (xh_ui h3 3 6 ((xg 0 h.2.1 3 6) - (Int32.ofInt 1))) := a_rq_ui hq
    exact xq_ret rfl rfl rfl ⟨rfl, fx_ui (fx_t (fx_0) (fx_w g3 (fun _ _ z => (or_f z).1) (fun _ _ z => z))) rfl⟩
set_option maxRecDepth 100000 in
set_option maxHeartbeats 4000000 in
theorem qu_lp {f P o d : Nat} {x2 : Int32} {h0 : xh_H} (ii : sItem T n mem nn NM f) (o6 : o ≤ 119) (d12 : d ≤ 11) : ∀ g, g ≤ f → ∀ (h : xh_H) (i p1 o1 : Nat), cr h T n mem nn NM p1 o1 (d + 1) → fx cS fN h0 h → o + 2 + i ≤ o1 → o1 ≤ 120 → (∀ fs : List Nat, fs.length = d + 1 → Rc T n mem nn (nmW T NM) (1, P, o + 1, 2 :: fs) (0, p1, o1, 2 :: fs)) → a_rq a_tb h → xq g xi_X4_readQuota xmi_X4_readQuota 57 [(0, .ref 3), (2, .int x2), (3, .int (Int32.ofInt 1)), (4, .int (nI i))] [] h (rO h0 T n mem nn NM o d (fun p' o' => ∀ fs : List Nat, fs.length = d + 1 → Rc T n mem nn (nmW T NM) (1, P, o + 1, 2 :: fs) (0, p', o', fs)) (fun e => ∀ fs : List Nat, fs.length = d + 1 → Fl T n mem nn (nmW T NM) (1, P, o + 1, 2 :: fs) e)) := by
  intro g
  induction g with
  | zero => intros; exact xq_0
  | succ g ihg =>
    intro hg h i p1 o1 c0 g0 hi ho GG hq
    have hT : ∀ k, k < n → T k < 256 := fun k hk' => (c0.1.2.2 k hk').1
    have kb := tkk_lt (T := T) (n := n) (p := p1) hT
    have n6 := c0.1.2.1
    have s6 := tks_le (T := T) (n := n) (p := p1)
    have mm := c0.2.2.2.2.1
    have n16 := c0.2.2.2.2.2.2.2.2.2.1.2.1
    cases c1 : xe_c .gt (nI i) 120 with
    | true =>
      have z1 : i > 120 := nq_gtt (a := i) (b := 120) (by omega) (by omega) c1
      omega
    | false =>
      have z1 : i ≤ 120 := nq_gtf (a := i) (b := 120) (by omega) (by omega) c1
      cases c2 : xe_c .eq (nI (tkk T n p1)) 93 with
      | true =>
        have z2 : (tkk T n p1) = 93 := nq_eqt (a := (tkk T n p1)) (b := 93) (by omega) (by omega) c2
        refine xq_m 98 [0, 2, 3, 4] [(0, .ref 3), (2, .int x2), (3, .int (Int32.ofInt 1)), (4, .int (nI i))] [.int x2, .int 6, .ref 4] h [false, false, true] 16 hq rfl ⟨c1, (by decide), (show xe_c .eq (xg 0 h.2.1 8 3) 93 = true by rw [show (xg 0 h.2.1 8 3) = (nI (tkk T n p1)) from c0.2.1.1]; exact c2), trivial⟩ (fun hq => ?_)
        refine xq_run hq rfl rfl (add_q hq) ?_
        rintro v3 h3 ⟨rfl, g3⟩
        have hq := fx_q g3 hq
        refine xq_n 118 [0, 2, 3, 4] [(0, .ref 3), (2, .int x2), (3, .int (Int32.ofInt 1)), (4, .int (nI i))] [.int 93, .ref 3] (xh_ui h3 3 6 ((xg 0 h3.2.1 3 6) - (Int32.ofInt 1))) [false] 12 hq rfl ⟨(by decide), trivial⟩ (fun _ => ?_)
        rw [show (xg 0 h3.2.1 3 6) = (nI (d + 1)) from (fx_i g3 rfl).trans (c0.2.2.2.2.2.2.2.1)]
        rw [show ((nI (d + 1)) - (Int32.ofInt 1)) = nI ((d + 1) - 1) from nI_dec1 (by omega)]
        rw [show (nI ((d + 1) - 1)) = nI d from (by rw [Nat.add_sub_cancel])]
        have hq : a_rq a_tb (xh_ui h3 3 6 (nI d)) := a_rq_ui hq
        refine xq_run hq rfl rfl (ts_q (c := 93) (by decide) (by decide) ⟨ct_f (S := cS) (L := fN) (ct_f (S := cS) (L := fN) (c0.1) (fx_w g3 (fun _ _ => aS_c) (fun _ _ z => z)) rfl (fun _ => rfl)) (fx_ui fx_0 rfl) rfl (fun _ => rfl), tok_f (S := fun c k => Nat.beq c 3) (L := fN) (tok_f (c0.2.1) g3 (fun _ => rfl)) (fx_ui fx_0 rfl) (fun _ => rfl), (gx_o (by decide)).trans ((fx_i g3 rfl).trans (c0.2.2.1)), (gx_k (by decide)).trans ((fx_i g3 rfl).trans (c0.2.2.2.1)), c0.2.2.2.2.1, (gx_k (by decide)).trans ((fx_i g3 rfl).trans (c0.2.2.2.2.2.1)), by omega, gx_s, by omega, cn_f (S := cS) (L := fN) (cn_f (S := cS) (L := fN) (c0.2.2.2.2.2.2.2.2.2.1) (fx_w g3 (fun _ _ => aS_c) (fun _ _ z => z)) rfl (fun _ => rfl) (fun _ => rfl)) (fx_ui fx_0 rfl) rfl (fun _ => rfl) (fun _ => rfl), (gx_k (by decide)).trans ((fx_i g3 rfl).trans (c0.2.2.2.2.2.2.2.2.2.2))⟩ hq) ?_
        rintro v4 h4 ⟨g4, l4, q4⟩
        have hq := fx_q g4 hq
        by_cases w4_0 : tkk T n p1 ≠ 93
        · obtain ⟨rfl, f4, y4, z4, e64, e4⟩ := q4 1 (tks T n p1) (by unfold kS; rw [if_pos w4_0])
          refine xq_n 129 [] [] [.int (Int32.ofInt 0)] h4 [true] 4 hq rfl ⟨(by decide), trivial⟩ (fun hq => ?_)
          exfalso; omega
        · skip
          obtain ⟨rfl, c4⟩ := l4 (tke T n p1) (o1) (d) (by unfold kS; rw [if_neg w4_0])
          have kb4 := tkk_lt (T := T) (n := n) (p := tke T n p1) hT
          have s64 := tks_le (T := T) (n := n) (p := tke T n p1)
          refine xq_n 129 [] [] [.int (Int32.ofInt 1)] h4 [false] 5 hq rfl ⟨(by decide), trivial⟩ (fun hq => ?_)
          refine xq_ret rfl rfl rfl ⟨fx_t (fx_ui (fx_t (g0) (fx_w g3 (fun _ _ => aS_c) (fun _ _ z => z))) rfl) (g4), Or.inl ⟨rfl, tke T n p1, o1, c4, by omega, by omega, fun fs hf => Rc_t (GG fs hf) (Rc_1 ?_)⟩⟩
          rw [enE]
          unfold en
          rw [if_pos (show (2 :: fs).head? = some 2 from rfl), if_pos (by omega)]
          rfl
      | false =>
        have z2 : (tkk T n p1) ≠ 93 := nq_eqf (a := (tkk T n p1)) (b := 93) (by omega) (by omega) c2
        have es : ∀ fs : List Nat, stp T n mem nn (nmW T NM) (0, p1, o1, 2 :: fs) = .inl (1, p1, o1, 2 :: fs) := fun fs => by rw [enE]; unfold en; rw [if_pos (show (2 :: fs).head? = some 2 from rfl), if_neg (by omega)]
        refine xq_m 81 [0, 2, 3, 4] [(0, .ref 3), (2, .int x2), (3, .int (Int32.ofInt 1)), (4, .int (nI i))] [.ref 3] h [false, false, false] 13 hq rfl ⟨c1, (by decide), (show xe_c .eq (xg 0 h.2.1 8 3) 93 = false by rw [show (xg 0 h.2.1 8 3) = (nI (tkk T n p1)) from c0.2.1.1]; exact c2), trivial⟩ (fun hq => ?_)
        refine xq_run hq rfl rfl (xq_le (by omega) (ii _ _ _ _ c0 (by omega) (by omega) hq)) ?_
        rintro v5 h5 ⟨g5, ⟨rfl, pq5, oq5, c5, lt5, le5, G5⟩ | ⟨rfl, kq5, lq5, f5, y5, B5⟩⟩
        · have hq := fx_q g5 hq
          have kb5 := tkk_lt (T := T) (n := n) (p := pq5) hT
          have s65 := tks_le (T := T) (n := n) (p := pq5)
          refine xq_n 57 [0, 2, 3, 4] [(0, .ref 3), (2, .int x2), (3, .int (Int32.ofInt 1)), (4, .int ((nI i) + Int32.ofInt 1))] [] h5 [] 5 hq rfl trivial (fun hq => ?_)
          rw [show ((nI i) + Int32.ofInt 1) = nI (i + 1) from nI_1 _]
          exact ihg (by omega) _ (i + 1) pq5 oq5 c5 (fx_t (g0) (g5)) (by omega) (by omega) (fun fs hf => Rc_t (GG fs hf) (Rc_t (Rc_1 (es fs)) (G5 fs hf))) hq
        · have hq := fx_q g5 hq
          refine xq_n 57 [0, 2, 3, 4] [(0, .ref 3), (2, .int x2), (3, .int (Int32.ofInt 0)), (4, .int ((nI i) + Int32.ofInt 1))] [] h5 [] 5 hq rfl trivial (fun hq => ?_)
          rw [show ((nI i) + Int32.ofInt 1) = nI (i + 1) from nI_1 _]
          refine xq_mono (qz_q hq) (fun v h' e => ?_)
          obtain ⟨rfl, gz⟩ := e
          exact ⟨fx_t (fx_t (g0) (g5)) (fx_w gz (fun _ _ => zS_c) (fun _ _ z => z)), Or.inr ⟨rfl, kq5, lq5, (fx_i gz rfl).trans (f5), (fx_i gz rfl).trans (y5), fun fs hf => Fl_t (Rc_t (GG fs hf) (Rc_1 (es fs))) (B5 fs hf)⟩⟩
set_option maxRecDepth 100000 in
set_option maxHeartbeats 4000000 in
theorem quo_s {f : Nat} (ii : sItem T n mem nn NM f) : sQuota T n mem nn NM (f + 1) := by
  intro h p o d st num c0 o6 d12 n9 hq
  have hT : ∀ k, k < n → T k < 256 := fun k hk' => (c0.1.2.2 k hk').1
  have kb := tkk_lt (T := T) (n := n) (p := p) hT
  have n6 := c0.1.2.1
  have s6 := tks_le (T := T) (n := n) (p := p)
  have mm := c0.2.2.2.2.1
  have n16 := c0.2.2.2.2.2.2.2.2.2.1.2.1
  cases c1 : xe_c .ge (nI num) (Int32.ofInt 1) with
  | true =>
    have z1 : num ≥ 1 := nq_get (a := num) (b := 1) (by omega) (by omega) c1
    refine xq_m 14 [0, 1, 2] [(0, .ref 3), (1, .int (nI st)), (2, .int (nI num))] [.int (nI st), .ref 3] h [true] 7 hq rfl ⟨c1, trivial⟩ (fun hq => ?_)
    refine xq_run hq rfl rfl (co_q (st := st) (by omega) c0 hq) ?_
    rintro v2 h2 ⟨g2, l2, q2⟩
    have hq := fx_q g2 hq
    by_cases w2_0 : 120 ≤ o
    · obtain ⟨rfl, f2, y2, z2, e62, e2⟩ := q2 4 (st) (by unfold kC; rw [if_pos w2_0])
      refine xq_n 39 [] [] [.int (Int32.ofInt 0)] h2 [true] 4 hq rfl ⟨(by decide), trivial⟩ (fun hq => ?_)
      refine xq_ret rfl rfl rfl ⟨fx_t (fx_0) (g2), Or.inr ⟨rfl, 4, st, f2, y2, fun fs hf => Or.inl ?_⟩⟩
      unfold qt
      try unfold bls
      repeat (first | rw [if_pos (by omega)] | rw [if_neg (by omega)] | rw [if_pos w2_0] | rw [if_neg w2_0] | rw [if_neg (by rw [w2_0]; decide)])
      try rfl
    · skip
      obtain ⟨rfl, c2⟩ := l2 (p) (o + 1) (d) (by unfold kC; rw [if_neg w2_0])
      have kb2 := tkk_lt (T := T) (n := n) (p := p) hT
      have s62 := tks_le (T := T) (n := n) (p := p)
      refine xq_n 23 [0, 1, 2] [(0, .ref 3), (1, .int (nI st)), (2, .int (nI num))] [.float 6, .ref 3] h2 [false] 5 hq rfl ⟨(by decide), trivial⟩ (fun hq => ?_)
      refine xq_run hq rfl rfl (tw4_q c2 hq) ?_
      rintro v3 h3 ⟨g3, l3, q3⟩
      have hq := fx_q g3 hq
      by_cases w3_0 : ky T n p 4 = false
      · obtain ⟨rfl, f3, y3, z3, e63, e3⟩ := q3 1 (tks T n p) (by unfold kW; rw [if_pos w3_0])
        refine xq_n 39 [] [] [.int (Int32.ofInt 0)] h3 [true] 4 hq rfl ⟨(by decide), trivial⟩ (fun hq => ?_)
        refine xq_ret rfl rfl rfl ⟨fx_t (fx_t (fx_0) (g2)) (g3), Or.inr ⟨rfl, 1, tks T n p, f3, y3, fun fs hf => Or.inl ?_⟩⟩
        unfold qt
        try unfold bls
        repeat (first | rw [if_pos (by omega)] | rw [if_neg (by omega)] | rw [if_pos w2_0] | rw [if_neg w2_0] | rw [if_neg (by rw [w2_0]; decide)] | rw [if_pos w3_0] | rw [if_neg w3_0] | rw [if_neg (by rw [w3_0]; decide)])
        try rfl
      · skip
        have w3_0t : ky T n p 4 = true := eq_true_of_ne_false w3_0
        have dw3_0 := of_decide_eq_true w3_0t
        obtain ⟨rfl, c3⟩ := l3 (tke T n p) ((o + 1)) (d) (by unfold kW; rw [if_neg w3_0])
        have kb3 := tkk_lt (T := T) (n := n) (p := tke T n p) hT
        have s63 := tks_le (T := T) (n := n) (p := tke T n p)
        refine xq_n 32 [0, 1, 2] [(0, .ref 3), (1, .int (nI st)), (2, .int (nI num))] [.int 91, .ref 3] h3 [false] 5 hq rfl ⟨(by decide), trivial⟩ (fun hq => ?_)
        refine xq_run hq rfl rfl (to_q (c := 91) (by decide) (by decide) c3 hq) ?_
        rintro v4 h4 ⟨g4, l4, q4⟩
        have hq := fx_q g4 hq
        by_cases w4_0 : tkk T n (tke T n p) ≠ 91
        · obtain ⟨rfl, f4, y4, z4, e64, e4⟩ := q4 1 (tks T n (tke T n p)) (by unfold kO; rw [if_pos w4_0])
          refine xq_n 39 [] [] [.int (Int32.ofInt 0)] h4 [false] 4 hq rfl ⟨(by decide), trivial⟩ (fun hq => ?_)
          refine xq_ret rfl rfl rfl ⟨fx_t (fx_t (fx_t (fx_0) (g2)) (g3)) (g4), Or.inr ⟨rfl, 1, tks T n (tke T n p), f4, y4, fun fs hf => Or.inl ?_⟩⟩
          unfold qt
          try unfold bls
          repeat (first | rw [if_pos (by omega)] | rw [if_neg (by omega)] | rw [if_pos w2_0] | rw [if_neg w2_0] | rw [if_neg (by rw [w2_0]; decide)] | rw [if_pos w3_0] | rw [if_neg w3_0] | rw [if_neg (by rw [w3_0]; decide)] | rw [if_pos w3_0t] | rw [if_neg w3_0t] | rw [if_neg (by rw [w3_0t]; decide)] | rw [if_pos w4_0] | rw [if_neg w4_0] | rw [if_neg (by rw [w4_0]; decide)])
          try rfl
        · skip
          by_cases w4_1 : 12 ≤ d
          · obtain ⟨rfl, f4, y4, z4, e64, e4⟩ := q4 4 (tks T n (tke T n p)) (by unfold kO; rw [if_neg w4_0, if_pos w4_1])
            refine xq_n 39 [] [] [.int (Int32.ofInt 0)] h4 [false] 4 hq rfl ⟨(by decide), trivial⟩ (fun hq => ?_)
            refine xq_ret rfl rfl rfl ⟨fx_t (fx_t (fx_t (fx_0) (g2)) (g3)) (g4), Or.inr ⟨rfl, 4, tks T n (tke T n p), f4, y4, fun fs hf => Or.inl ?_⟩⟩
            unfold qt
            try unfold bls
            repeat (first | rw [if_pos (by omega)] | rw [if_neg (by omega)] | rw [if_pos w2_0] | rw [if_neg w2_0] | rw [if_neg (by rw [w2_0]; decide)] | rw [if_pos w3_0] | rw [if_neg w3_0] | rw [if_neg (by rw [w3_0]; decide)] | rw [if_pos w3_0t] | rw [if_neg w3_0t] | rw [if_neg (by rw [w3_0t]; decide)] | rw [if_pos w4_0] | rw [if_neg w4_0] | rw [if_neg (by rw [w4_0]; decide)] | rw [if_pos w4_1] | rw [if_neg w4_1] | rw [if_neg (by rw [w4_1]; decide)])
            try rfl
          · skip
            obtain ⟨rfl, c4⟩ := l4 (tke T n (tke T n p)) ((o + 1)) (d + 1) (by unfold kO; rw [if_neg w4_0, if_neg w4_1])
            have kb4 := tkk_lt (T := T) (n := n) (p := tke T n (tke T n p)) hT
            have s64 := tks_le (T := T) (n := n) (p := tke T n (tke T n p))
            refine xq_n 46 [0, 1, 2] [(0, .ref 3), (1, .int (nI st)), (2, .int (nI num))] [.int (Int32.ofInt 0), .int (Int32.ofInt 4), .ref 4] h4 [true] 7 hq rfl ⟨(by decide), trivial⟩ (fun hq => ?_)
            refine xq_run hq rfl rfl (add_q hq) ?_
            rintro v5 h5 ⟨rfl, g5⟩
            have hq := fx_q g5 hq
            refine xq_n 50 [0, 1, 2] [(0, .ref 3), (1, .int (nI st)), (2, .int (nI num))] [.ref 3] h5 [] 3 hq rfl trivial (fun hq => ?_)
            refine xq_run hq rfl rfl (ii _ _ _ _ ⟨ct_f (S := cS) (L := fN) (c4.1) (fx_w g5 (fun _ _ => aS_c) (fun _ _ z => z)) rfl (fun _ => rfl), tok_f (c4.2.1) g5 (fun _ => rfl), (fx_i g5 rfl).trans (c4.2.2.1), (fx_i g5 rfl).trans (c4.2.2.2.1), c0.2.2.2.2.1, (fx_i g5 rfl).trans (c4.2.2.2.2.2.1), by omega, (fx_i g5 rfl).trans (c4.2.2.2.2.2.2.2.1), by omega, cn_f (S := cS) (L := fN) (c4.2.2.2.2.2.2.2.2.2.1) (fx_w g5 (fun _ _ => aS_c) (fun _ _ z => z)) rfl (fun _ => rfl) (fun _ => rfl), (fx_i g5 rfl).trans (c4.2.2.2.2.2.2.2.2.2.2)⟩ (by omega) (by omega) hq) ?_
            rintro v6 h6 ⟨g6, ⟨rfl, pq6, oq6, c6, lt6, le6, G6⟩ | ⟨rfl, kq6, lq6, f6, y6, B6⟩⟩
            · have hq := fx_q g6 hq
              have kb6 := tkk_lt (T := T) (n := n) (p := pq6) hT
              have s66 := tks_le (T := T) (n := n) (p := pq6)
              refine xq_n 57 [0, 2, 3, 4] [(0, .ref 3), (2, .int (nI num)), (3, .int (Int32.ofInt 1)), (4, .int (Int32.ofInt 0))] [] h6 [] 5 hq rfl trivial (fun hq => ?_)
              refine xq_mono (qu_lp (P := tke T n (tke T n p)) (o := o) (d := d) ii (by omega) (by omega) f (Nat.le_refl _) _ 0 pq6 oq6 c6 (fx_t (fx_t (fx_t (fx_t (fx_t (fx_0) (g2)) (g3)) (g4)) (fx_w g5 (fun _ _ => aS_c) (fun _ _ z => z))) (g6)) (by omega) (by omega) (fun fs hf => G6 fs hf) hq) (fun v h' e => ?_)
              obtain ⟨e1, ⟨rfl, p', o', e3, e4, e5, e6⟩ | ⟨rfl, k, pl, e3, e4, e5⟩⟩ := e
              · refine ⟨e1, Or.inl ⟨rfl, p', o', e3, e4, e5, fun fs hf => ?_⟩⟩
                have er : qt T n p o st num fs = .inl (1, tke T n (tke T n p), o + 1, 2 :: fs) := by unfold qt bls; repeat (first | rw [if_pos (by omega)] | rw [if_neg (by omega)] | rw [if_pos w2_0] | rw [if_neg w2_0] | rw [if_neg (by rw [w2_0]; decide)] | rw [if_pos w3_0] | rw [if_neg w3_0] | rw [if_neg (by rw [w3_0]; decide)] | rw [if_pos w3_0t] | rw [if_neg w3_0t] | rw [if_neg (by rw [w3_0t]; decide)] | rw [if_pos w4_0] | rw [if_neg w4_0] | rw [if_neg (by rw [w4_0]; decide)] | rw [if_pos w4_1] | rw [if_neg w4_1] | rw [if_neg (by rw [w4_1]; decide)])
                exact ⟨_, er, e6 fs hf⟩
              · refine ⟨e1, Or.inr ⟨rfl, k, pl, e3, e4, fun fs hf => ?_⟩⟩
                have er : qt T n p o st num fs = .inl (1, tke T n (tke T n p), o + 1, 2 :: fs) := by unfold qt bls; repeat (first | rw [if_pos (by omega)] | rw [if_neg (by omega)] | rw [if_pos w2_0] | rw [if_neg w2_0] | rw [if_neg (by rw [w2_0]; decide)] | rw [if_pos w3_0] | rw [if_neg w3_0] | rw [if_neg (by rw [w3_0]; decide)] | rw [if_pos w3_0t] | rw [if_neg w3_0t] | rw [if_neg (by rw [w3_0t]; decide)] | rw [if_pos w4_0] | rw [if_neg w4_0] | rw [if_neg (by rw [w4_0]; decide)] | rw [if_pos w4_1] | rw [if_neg w4_1] | rw [if_neg (by rw [w4_1]; decide)])
                exact Or.inr ⟨_, er, e5 fs hf⟩
            · have hq := fx_q g6 hq
              refine xq_n 57 [0, 2, 3, 4] [(0, .ref 3), (2, .int (nI num)), (3, .int (Int32.ofInt 0)), (4, .int (Int32.ofInt 0))] [] h6 [] 5 hq rfl trivial (fun hq => ?_)
              refine xq_mono (qz_q hq) (fun v h' e => ?_)
              obtain ⟨rfl, gz⟩ := e
              refine ⟨fx_t (fx_t (fx_t (fx_t (fx_t (fx_t (fx_0) (g2)) (g3)) (g4)) (fx_w g5 (fun _ _ => aS_c) (fun _ _ z => z))) (g6)) (fx_w gz (fun _ _ => zS_c) (fun _ _ z => z)), Or.inr ⟨rfl, kq6, lq6, (fx_i gz rfl).trans (f6), (fx_i gz rfl).trans (y6), fun fs hf => ?_⟩⟩
              have er : qt T n p o st num fs = .inl (1, tke T n (tke T n p), o + 1, 2 :: fs) := by unfold qt bls; repeat (first | rw [if_pos (by omega)] | rw [if_neg (by omega)] | rw [if_pos w2_0] | rw [if_neg w2_0] | rw [if_neg (by rw [w2_0]; decide)] | rw [if_pos w3_0] | rw [if_neg w3_0] | rw [if_neg (by rw [w3_0]; decide)] | rw [if_pos w3_0t] | rw [if_neg w3_0t] | rw [if_neg (by rw [w3_0t]; decide)] | rw [if_pos w4_0] | rw [if_neg w4_0] | rw [if_neg (by rw [w4_0]; decide)] | rw [if_pos w4_1] | rw [if_neg w4_1] | rw [if_neg (by rw [w4_1]; decide)])
              exact Or.inr ⟨_, er, B6 fs hf⟩
  | false =>
    have z1 : num < 1 := nq_gef (a := num) (b := 1) (by omega) (by omega) c1
    refine xq_m 8 [0, 1, 2] [(0, .ref 3), (1, .int (nI st)), (2, .int (nI num))] [.int (nI st), .int (Int32.ofInt 2), .ref 3] h [false] 8 hq rfl ⟨c1, trivial⟩ (fun hq => ?_)
    refine xq_run hq rfl rfl (fail_q (k := 2) (pl := st) hq) ?_
    rintro v7 h7 ⟨rfl, g7, f7, l7⟩
    have hq := fx_q g7 hq
    refine xq_ret rfl rfl rfl ⟨fx_t (fx_0) (fx_w g7 (fun _ _ => fS_c) (fun _ _ z => z)), Or.inr ⟨rfl, 2, st, f7, l7, fun fs hf => Or.inl ?_⟩⟩
    unfold qt
    try unfold bls
    repeat (first | rw [if_pos (by omega)] | rw [if_neg (by omega)])
    try rfl
/-- ALL OF THEM -/
theorem rd_all : ∀ f, sOne T n mem nn NM f ∧ sAll T n mem nn NM f ∧ sRule T n mem nn NM f ∧ sItem T n mem nn NM f ∧ sQuota T n mem nn NM f := by
  intro f
  induction f with
  | zero => exact ⟨fun _ _ _ _ _ _ _ _ => xq_0, fun _ _ _ _ _ _ _ _ => xq_0, fun _ _ _ _ _ _ _ _ => xq_0, fun _ _ _ _ _ _ _ _ => xq_0, fun _ _ _ _ _ _ _ _ _ _ _ => xq_0⟩
  | succ f ih => exact ⟨one_s ih.2.2.2.2 ih.2.2.1, all_s ih.1, rul_s ih.2.1, item_s ih.1 ih.2.2.2.2, quo_s ih.2.2.2.1⟩
end XRO
end
section
section XRP
variable {T : Nat → Nat} {n mem nn : Nat} {NM : Nat → Nat × Nat}
def kT (T : Nat → Nat) (n nn : Nat) (NW : Nat → Nat) (p o d : Nat) : Sum (Nat × Nat × Nat) (Nat × Nat) := if nmt T n p = false then .inr (1, tks T n p) else if hasn nn NW (tkw T n p) = true then .inr (3, tks T n p) else if 16 ≤ nn then .inr (4, tks T n p) else .inl (tke T n p, o, d)
def kE (T : Nat → Nat) (n p o d : Nat) : Sum (Nat × Nat × Nat) (Nat × Nat) := if tkk T n p = 0 ∧ n ≤ 600 then .inl (p, o, d) else .inr (1, tks T n p)
set_option maxRecDepth 100000 in
set_option maxHeartbeats 4000000 in
theorem tnn_q {f p o d : Nat} {h : xh_H} (c0 : cr h T n mem nn NM p o d) (hq : a_rq a_tb h) : xq f xi_X4_takeNewName xmi_X4_takeNewName 0 [(0, .ref 3)] [] h (co_Q h T n mem nn NM (kT T n nn (nmW T NM) p o d)) := by
  have hT : ∀ k, k < n → T k < 256 := fun k hk' => (c0.1.2.2 k hk').1
  have kb := tkk_lt (T := T) (n := n) (p := p) hT
  have n6 := c0.1.2.1
  have s6 := tks_le (T := T) (n := n) (p := p)
  have mm := c0.2.2.2.2.1
  have n16 := c0.2.2.2.2.2.2.2.2.2.1.2.1
  have o121 := c0.2.2.2.2.2.2.1
  have d13 := c0.2.2.2.2.2.2.2.2.1
  refine xq_n 4 [0] [(0, .ref 3)] [.ref 8] h [] 4 hq rfl trivial (fun hq => ?_)
  refine xq_run hq rfl rfl (nm_q (c0.1) (c0.2.1) hq) ?_
  rintro v1 h_v1 ⟨rfl, rfl⟩
  cases b2 : (nmt T n p) with
  | true =>
    have db2 := of_decide_eq_true b2
    refine xq_n 24 [0] [(0, .ref 3)] [.ref 3] h [true] 4 hq rfl ⟨rfl, trivial⟩ (fun hq => ?_)
    refine xq_run hq rfl rfl (tn_q c0 (by omega) hq) ?_
    rintro v3 h_3 ⟨rfl, ⟨rfl, hn3⟩ | ⟨kk3, kl3, rfl, -, hn3⟩⟩
    · skip
      cases c4 : xe_c .lt (nI nn) 16 with
      | true =>
        have z4 : nn < 16 := nq_ltt (a := nn) (b := 16) (by omega) (by omega) c4
        refine xq_n 70 [0] [(0, .ref 3)] [.ref 8] h [true, true] 10 hq rfl ⟨(by decide), (show xe_c .lt (xg 0 h.2.1 3 7) 16 = true by rw [show (xg 0 h.2.1 3 7) = (nI nn) from c0.2.2.2.2.2.2.2.2.2.1.1]; exact c4), trivial⟩ (fun hq => ?_)
        have nz5 : tkk T n p ≠ 0 := by omega
        have le5 := tke_le nz5
        refine xq_run hq rfl rfl (adv_q hq hT (c0.1) (c0.2.2.1) ((c0.2.1.2.2.1 (by omega)).1) (by omega)) ?_
        rintro v5 h5 ⟨rfl, g5, t5⟩
        have hq := fx_q g5 hq
        have kb5 := tkk_lt (T := T) (n := n) (p := tke T n p) hT
        have s65 := tks_le (T := T) (n := n) (p := tke T n p)
        refine xq_n 74 [] [] [.int (Int32.ofInt 1)] h5 [] 3 hq rfl trivial (fun hq => ?_)
        have er : kT T n nn (nmW T NM) p o d = .inl (tke T n p, o, d) := by
          unfold kT
          repeat (first | rw [if_pos (by omega)] | rw [if_neg (by omega)] | rw [if_pos b2] | rw [if_neg (by rw [b2]; decide)] | rw [if_pos hn3] | rw [if_neg (by rw [hn3]; decide)])
          try rfl
        exact xq_ret rfl rfl rfl (co_l er (fx_t (fx_0) (fx_w g5 (fun _ _ => sS_c) (fun _ _ z => z))) rfl ⟨ct_f (S := cS) (L := fN) (c0.1) (fx_w g5 (fun _ _ => sS_c) (fun _ _ z => z)) rfl (fun _ => rfl), t5, (fx_i g5 rfl).trans (c0.2.2.1), (fx_i g5 rfl).trans (c0.2.2.2.1), c0.2.2.2.2.1, (fx_i g5 rfl).trans (c0.2.2.2.2.2.1), by omega, (fx_i g5 rfl).trans (c0.2.2.2.2.2.2.2.1), by omega, cn_f (S := cS) (L := fN) (c0.2.2.2.2.2.2.2.2.2.1) (fx_w g5 (fun _ _ => sS_c) (fun _ _ z => z)) rfl (fun _ => rfl) (fun _ => rfl), (fx_i g5 rfl).trans (c0.2.2.2.2.2.2.2.2.2.2)⟩)
      | false =>
        have z4 : nn ≥ 16 := nq_ltf (a := nn) (b := 16) (by omega) (by omega) c4
        refine xq_n 62 [0] [(0, .ref 3)] [.int (xg 0 h.2.1 8 4), .int (Int32.ofInt 4), .ref 3] h [true, false] 13 hq rfl ⟨(by decide), (show xe_c .lt (xg 0 h.2.1 3 7) 16 = false by rw [show (xg 0 h.2.1 3 7) = (nI nn) from c0.2.2.2.2.2.2.2.2.2.1.1]; exact c4), trivial⟩ (fun hq => ?_)
        rw [show (xg 0 h.2.1 8 4) = (nI (tks T n p)) from c0.2.1.2.1]
        refine xq_run hq rfl rfl (fail_q (k := 4) (pl := (tks T n p)) hq) ?_
        rintro v6 h6 ⟨rfl, g6, f6, l6⟩
        have hq := fx_q g6 hq
        have er : kT T n nn (nmW T NM) p o d = .inr (4, tks T n p) := by
          unfold kT
          repeat (first | rw [if_pos (by omega)] | rw [if_neg (by omega)] | rw [if_pos b2] | rw [if_neg (by rw [b2]; decide)] | rw [if_pos hn3] | rw [if_neg (by rw [hn3]; decide)])
          try rfl
        exact xq_ret rfl rfl rfl (co_r er (fx_t (fx_0) (fx_w g6 (fun _ _ => fS_c) (fun _ _ z => z))) rfl (f6) (l6) (tok_f (c0.2.1) g6 (fun _ => rfl)).2.2.2.2)
    · skip
      cases c7 : xe_c .eq (nI kk3) (Int32.ofInt (-1)) with
      | true =>
        exact absurd (of_decide_eq_true c7) (nIm1 (by omega))
      | false =>
        refine xq_n 40 [0] [(0, .ref 3)] [.int (xg 0 h.2.1 8 4), .int (Int32.ofInt 3), .ref 3] h [false] 9 hq rfl ⟨c7, trivial⟩ (fun hq => ?_)
        rw [show (xg 0 h.2.1 8 4) = (nI (tks T n p)) from c0.2.1.2.1]
        refine xq_run hq rfl rfl (fail_q (k := 3) (pl := (tks T n p)) hq) ?_
        rintro v8 h8 ⟨rfl, g8, f8, l8⟩
        have hq := fx_q g8 hq
        have er : kT T n nn (nmW T NM) p o d = .inr (3, tks T n p) := by
          unfold kT
          repeat (first | rw [if_pos (by omega)] | rw [if_neg (by omega)] | rw [if_pos b2] | rw [if_neg (by rw [b2]; decide)] | rw [if_pos hn3] | rw [if_neg (by rw [hn3]; decide)])
          try rfl
        exact xq_ret rfl rfl rfl (co_r er (fx_t (fx_0) (fx_w g8 (fun _ _ => fS_c) (fun _ _ z => z))) rfl (f8) (l8) (tok_f (c0.2.1) g8 (fun _ => rfl)).2.2.2.2)
  | false =>
    have db2 := of_decide_eq_false b2
    refine xq_n 19 [0] [(0, .ref 3)] [.int (xg 0 h.2.1 8 4), .int (Int32.ofInt 1), .ref 3] h [false] 8 hq rfl ⟨rfl, trivial⟩ (fun hq => ?_)
    rw [show (xg 0 h.2.1 8 4) = (nI (tks T n p)) from c0.2.1.2.1]
    refine xq_run hq rfl rfl (fail_q (k := 1) (pl := (tks T n p)) hq) ?_
    rintro v9 h9 ⟨rfl, g9, f9, l9⟩
    have hq := fx_q g9 hq
    have er : kT T n nn (nmW T NM) p o d = .inr (1, tks T n p) := by
      unfold kT
      repeat (first | rw [if_pos (by omega)] | rw [if_neg (by omega)] | rw [if_pos b2] | rw [if_neg (by rw [b2]; decide)])
      try rfl
    exact xq_ret rfl rfl rfl (co_r er (fx_t (fx_0) (fx_w g9 (fun _ _ => fS_c) (fun _ _ z => z))) rfl (f9) (l9) (tok_f (c0.2.1) g9 (fun _ => rfl)).2.2.2.2)
set_option maxRecDepth 100000 in
set_option maxHeartbeats 4000000 in
theorem cut_q {f : Nat} {h : xh_H} (hc : ct h T n) (hq : a_rq a_tb h) : xq f xi_X6_isCut xmi_X6_isCut 0 [(0, .ref 8)] [] h (fun v h' => h = h' ∧ v = some (.int (bl (decide (600 < n))))) := by
  have n6 := hc.2.1
  cases c1 : xe_c .le (nI n) 600 with
  | true =>
    have z1 : n ≤ 600 := nq_let (a := n) (b := 600) (by omega) (by omega) c1
    refine xq_n 18 [] [] [.int (Int32.ofInt 0)] h [true] 8 hq rfl ⟨(show xe_c .le (xg 0 h.2.1 1 1) 600 = true by rw [show (xg 0 h.2.1 1 1) = (nI n) from hc.1]; exact c1), trivial⟩ (fun hq => ?_)
    exact xq_ret rfl rfl rfl ⟨rfl, by rw [show decide (600 < n) = false from decide_eq_false (by omega)]; rfl⟩
  | false =>
    have z1 : n > 600 := nq_lef (a := n) (b := 600) (by omega) (by omega) c1
    refine xq_n 18 [] [] [.int (Int32.ofInt 1)] h [false] 9 hq rfl ⟨(show xe_c .le (xg 0 h.2.1 1 1) 600 = false by rw [show (xg 0 h.2.1 1 1) = (nI n) from hc.1]; exact c1), trivial⟩ (fun hq => ?_)
    exact xq_ret rfl rfl rfl ⟨rfl, by rw [show decide (600 < n) = true from decide_eq_true (by omega)]; rfl⟩
set_option maxRecDepth 100000 in
set_option maxHeartbeats 4000000 in
theorem te_q {f p o d : Nat} {h : xh_H} (c0 : cr h T n mem nn NM p o d) (hq : a_rq a_tb h) : xq f xi_X4_takeEnd xmi_X4_takeEnd 0 [(0, .ref 3)] [] h (co_Q h T n mem nn NM (kE T n p o d)) := by
  have hT : ∀ k, k < n → T k < 256 := fun k hk' => (c0.1.2.2 k hk').1
  have kb := tkk_lt (T := T) (n := n) (p := p) hT
  have n6 := c0.1.2.1
  have s6 := tks_le (T := T) (n := n) (p := p)
  have mm := c0.2.2.2.2.1
  have n16 := c0.2.2.2.2.2.2.2.2.2.1.2.1
  have o121 := c0.2.2.2.2.2.2.1
  have d13 := c0.2.2.2.2.2.2.2.2.1
  cases c1 : xe_c .ne (nI (tkk T n p)) 0 with
  | true =>
    have z1 : (tkk T n p) ≠ 0 := nq_net (a := (tkk T n p)) (b := 0) (by omega) (by omega) c1
    refine xq_n 39 [0, 1] [(0, .ref 3), (1, .int (Int32.ofInt 0))] [.int (xg 0 h.2.1 8 4), .int (Int32.ofInt 1), .ref 3] h [true, false] 15 hq rfl ⟨(show xe_c .ne (xg 0 h.2.1 8 3) 0 = true by rw [show (xg 0 h.2.1 8 3) = (nI (tkk T n p)) from c0.2.1.1]; exact c1), (by decide), trivial⟩ (fun hq => ?_)
    rw [show (xg 0 h.2.1 8 4) = (nI (tks T n p)) from c0.2.1.2.1]
    refine xq_run hq rfl rfl (fail_q (k := 1) (pl := (tks T n p)) hq) ?_
    rintro v2 h2 ⟨rfl, g2, f2, l2⟩
    have hq := fx_q g2 hq
    refine xq_n 50 [] [] [.int (Int32.ofInt 0)] h2 [true] 4 hq rfl ⟨(by decide), trivial⟩ (fun hq => ?_)
    have er : kE T n p o d = .inr (1, tks T n p) := by
      unfold kE
      repeat (first | rw [if_pos (by omega)] | rw [if_neg (by omega)])
      try rfl
    exact xq_ret rfl rfl rfl (co_r er (fx_t (fx_0) (fx_w g2 (fun _ _ => fS_c) (fun _ _ z => z))) rfl (f2) (l2) (tok_f (c0.2.1) g2 (fun _ => rfl)).2.2.2.2)
  | false =>
    have z1 : (tkk T n p) = 0 := nq_nef (a := (tkk T n p)) (b := 0) (by omega) (by omega) c1
    refine xq_n 14 [0] [(0, .ref 3)] [.ref 8] h [false] 8 hq rfl ⟨(show xe_c .ne (xg 0 h.2.1 8 3) 0 = false by rw [show (xg 0 h.2.1 8 3) = (nI (tkk T n p)) from c0.2.1.1]; exact c1), trivial⟩ (fun hq => ?_)
    refine xq_run hq rfl rfl (cut_q (c0.1) hq) ?_
    rintro v3 h_v3 ⟨rfl, rfl⟩
    cases b4 : (decide (600 < n)) with
    | true =>
      have db4 := of_decide_eq_true b4
      refine xq_n 39 [0, 1] [(0, .ref 3), (1, .int (Int32.ofInt 0))] [.int (xg 0 h.2.1 8 4), .int (Int32.ofInt 1), .ref 3] h [true, false] 12 hq rfl ⟨rfl, (by decide), trivial⟩ (fun hq => ?_)
      rw [show (xg 0 h.2.1 8 4) = (nI (tks T n p)) from c0.2.1.2.1]
      refine xq_run hq rfl rfl (fail_q (k := 1) (pl := (tks T n p)) hq) ?_
      rintro v5 h5 ⟨rfl, g5, f5, l5⟩
      have hq := fx_q g5 hq
      refine xq_n 50 [] [] [.int (Int32.ofInt 0)] h5 [true] 4 hq rfl ⟨(by decide), trivial⟩ (fun hq => ?_)
      have er : kE T n p o d = .inr (1, tks T n p) := by
        unfold kE
        repeat (first | rw [if_pos (by omega)] | rw [if_neg (by omega)] | rw [if_pos b4] | rw [if_neg (by rw [b4]; decide)])
        try rfl
      exact xq_ret rfl rfl rfl (co_r er (fx_t (fx_0) (fx_w g5 (fun _ _ => fS_c) (fun _ _ z => z))) rfl (f5) (l5) (tok_f (c0.2.1) g5 (fun _ => rfl)).2.2.2.2)
    | false =>
      have db4 := of_decide_eq_false b4
      refine xq_n 50 [] [] [.int (Int32.ofInt 1)] h [false, true] 10 hq rfl ⟨rfl, (by decide), trivial⟩ (fun hq => ?_)
      have er : kE T n p o d = .inl (p, o, d) := by
        unfold kE
        repeat (first | rw [if_pos (by omega)] | rw [if_neg (by omega)] | rw [if_pos b4] | rw [if_neg (by rw [b4]; decide)])
        try rfl
      exact xq_ret rfl rfl rfl (co_l er (fx_0) rfl c0)
def upM (NM : Nat → Nat × Nat) (nn : Nat) (x : Nat × Nat) : Nat → Nat × Nat := fun k => if k = nn then x else NM k
theorem nmW_up {x : Nat × Nat} : nmW T (upM NM nn x) = upN (nmW T NM) nn (wv T x.1 (x.2 - x.1)) := by
  funext k
  unfold nmW upM upN
  by_cases e : k = nn
  · rw [if_pos e, if_pos e]
  · rw [if_neg e, if_neg e]
def cT (c k : Nat) : Bool := cS c k || ((Nat.beq c 3 && Nat.beq k 7) || (Nat.beq c 9 || Nat.beq c 10))
theorem cS_t {c k : Nat} (h : cT c k = false) : cS c k = false := (or_f h).1
def bc_Q (h : xh_H) (T : Nat → Nat) (n mem nn : Nat) (NM : Nat → Nat × Nat) (p o : Nat) (v : Option Value) (h' : xh_H) : Prop := fx cT fN h h' ∧ ((v = some (.int 1) ∧ nn < 16 ∧ ∃ p' o', o' ≤ 120 ∧ cr h' T n mem (nn + 1) (upM NM nn (tks T n (tke T n p), tke T n (tke T n p))) p' o' 0 ∧ Bdy T n mem nn (nmW T NM) p o (.inl (p', o', tkw T n (tke T n p)))) ∨ (v = some (.int 0) ∧ ∃ k pl, xg 0 h'.2.1 3 8 = nI k ∧ xg 0 h'.2.1 3 9 = nI pl ∧ Bdy T n mem nn (nmW T NM) p o (.inr (k, pl))))
set_option maxRecDepth 100000 in
set_option maxHeartbeats 4000000 in
theorem bd_end {f p o p' o' : Nat} {h h1 : xh_H} (hq : a_rq a_tb h1) (c1 : cr h1 T n mem nn NM p' o' 0) (g1 : fx cS fN h h1) (n15 : nn < 16) (h2 : tkk T n (tke T n p) = 2) (o6 : o' ≤ 120) (hB : Bdy T n mem nn (nmW T NM) p o (.inl (p', o', tkw T n (tke T n p)))) : xq f xi_X4_readBody xmi_X4_readBody 57 [(0, .ref 3), (1, .int (nI (tks T n (tke T n p)))), (2, .int (nI (tke T n (tke T n p))))] [] h1 (bc_Q h T n mem nn NM p o) := by
  have gt := tke_gt (T := T) (n := n) (p := tke T n p) (by omega)
  refine xq_n 67 [0, 1, 2] [(0, .ref 3), (1, .int (nI (tks T n (tke T n p)))), (2, .int (nI (tke T n (tke T n p))))] [.int (xg 0 h1.2.1 3 7), .int 7, .ref 4] h1 [] 7 hq rfl trivial (fun hq => ?_)
  refine xq_run hq rfl rfl (add_q hq) ?_
  rintro v h2' ⟨rfl, g2⟩
  have hq := fx_q g2 hq
  have g3 : fx cS fN h1 h2' := fx_w g2 (fun _ _ => aS_c) (fun _ _ z => z)
  have e7 : xg 0 h2'.2.1 3 7 = nI nn := (fx_i g2 rfl).trans c1.2.2.2.2.2.2.2.2.2.1.1
  refine xq_n 89 [0, 2] [(0, .ref 3), (2, .int (nI (tke T n (tke T n p))))] [] (xh_ui h2' 9 (xg 0 h2'.2.1 3 7).toNatClampNeg (nI (tks T n (tke T n p)))) [false] 12 hq rfl ⟨(show xe_c .ge (xg 0 h2'.2.1 3 7) 16 = false by rw [e7]; exact nge_f (b := 16) (by omega) (by decide) n15), trivial⟩ (fun _ => ?_)
  rw [e7, show (nI nn).toNatClampNeg = nn from nI_clamp (by omega)]
  have hq : a_rq a_tb (xh_ui h2' 9 nn (nI (tks T n (tke T n p)))) := a_rq_ui hq
  have f7 : xg 0 (xh_ui h2' 9 nn (nI (tks T n (tke T n p)))).2.1 3 7 = nI nn := (gx_o (by decide)).trans e7
  refine xq_n 99 [0] [(0, .ref 3)] [] (xh_ui (xh_ui h2' 9 nn (nI (tks T n (tke T n p)))) 10 (xg 0 (xh_ui h2' 9 nn (nI (tks T n (tke T n p)))).2.1 3 7).toNatClampNeg (nI (tke T n (tke T n p)))) [] 8 hq rfl trivial (fun _ => ?_)
  rw [f7, show (nI nn).toNatClampNeg = nn from nI_clamp (by omega)]
  have hq : a_rq a_tb (xh_ui (xh_ui h2' 9 nn (nI (tks T n (tke T n p)))) 10 nn (nI (tke T n (tke T n p)))) := a_rq_ui hq
  have k7 : xg 0 (xh_ui (xh_ui h2' 9 nn (nI (tks T n (tke T n p)))) 10 nn (nI (tke T n (tke T n p)))).2.1 3 7 = nI nn := (gx_o (by decide)).trans f7
  have k9 : ∀ k, xg 0 (xh_ui (xh_ui h2' 9 nn (nI (tks T n (tke T n p)))) 10 nn (nI (tke T n (tke T n p)))).2.1 9 k = if k = nn then nI (tks T n (tke T n p)) else xg 0 h2'.2.1 9 k := fun k => by
    rw [gx_o (by decide)]
    by_cases e : k = nn
    · rw [if_pos e, e]; exact gx_s
    · rw [if_neg e]; exact gx_k e
  have k10 : ∀ k, xg 0 (xh_ui (xh_ui h2' 9 nn (nI (tks T n (tke T n p)))) 10 nn (nI (tke T n (tke T n p)))).2.1 10 k = if k = nn then nI (tke T n (tke T n p)) else xg 0 h2'.2.1 10 k := fun k => by
    by_cases e : k = nn
    · rw [if_pos e, e]; exact gx_s
    · rw [if_neg e, gx_k e]; exact gx_o (by decide)
  have g4 : fx (fun c _ => Nat.beq c 9 || Nat.beq c 10) fN h2' (xh_ui (xh_ui h2' 9 nn (nI (tks T n (tke T n p)))) 10 nn (nI (tke T n (tke T n p)))) := fx_ui (fx_ui fx_0 rfl) rfl
  generalize xh_ui (xh_ui h2' 9 nn (nI (tks T n (tke T n p)))) 10 nn (nI (tke T n (tke T n p))) = h3 at hq k7 k9 k10 g4 ⊢
  refine xq_n 110 [] [] [.int (Int32.ofInt 1)] (xh_ui h3 3 7 ((xg 0 h3.2.1 3 7) + (Int32.ofInt 1))) [] 9 hq rfl trivial (fun _ => ?_)
  rw [k7, show nI nn + Int32.ofInt 1 = nI (nn + 1) from nI_1 _]
  have gA : fx cT fN h (xh_ui h3 3 7 (nI (nn + 1))) := fx_ui (fx_t (fx_t (fx_w g1 (fun _ _ => cS_t) (fun _ _ z => z)) (fx_w g3 (fun _ _ => cS_t) (fun _ _ z => z))) (fx_w g4 (fun c k z => by have := (or_f (or_f z).2).2; exact this) (fun _ _ z => z))) rfl
  have gB : fx (fun c k => Nat.beq c 9 || (Nat.beq c 10 || ((Nat.beq c 3 && Nat.beq k 7) || aS_ c k))) fN h1 (xh_ui h3 3 7 (nI (nn + 1))) := by
    refine fx_ui (fx_t (fx_w g2 (fun c k z => ?_) (fun _ _ z => z)) (fx_w g4 (fun c k z => ?_) (fun _ _ z => z))) rfl
    · exact (or_f (or_f (or_f z).2).2).2
    · show (Nat.beq c 9 || Nat.beq c 10) = false
      rw [(or_f z).1, (or_f (or_f z).2).1]
      rfl
  obtain ⟨s1, s2, s3, s4, s5, s6, s7, s8, s9, s10, s11⟩ := c1
  refine xq_ret rfl rfl rfl ⟨gA, Or.inl ⟨rfl, n15, p', o', o6, ⟨ct_f s1 gB rfl (fun _ => rfl), tok_f s2 gB (fun _ => rfl), (fx_i gB rfl).trans s3, (fx_i gB rfl).trans s4, s5, (fx_i gB rfl).trans s6, s7, (fx_i gB rfl).trans s8, s9, ⟨gx_s, by omega, fun k hk' => ?_⟩, (fx_i gB rfl).trans s11⟩, hB⟩⟩
  rw [gx_o (by decide), gx_o (by decide), k9, k10]
  unfold upM
  by_cases e : k = nn
  · rw [if_pos e, if_pos e, if_pos e]
    exact ⟨rfl, rfl, by show tks T n (tke T n p) ≤ tke T n (tke T n p); omega, gt.2.1, fun j hj => (tk2 h2).2.2 _ (by show tks T n (tke T n p) ≤ tks T n (tke T n p) + j; omega) (by have hj : j < tke T n (tke T n p) - tks T n (tke T n p) := hj; show tks T n (tke T n p) + j < _; omega)⟩
  · rw [if_neg e, if_neg e, if_neg e]
    have := s10.2.2 k (by omega)
    rw [fx_i (c := 9) (k := k) g2 rfl, fx_i (c := 10) (k := k) g2 rfl]
    exact this
set_option maxRecDepth 100000 in
set_option maxHeartbeats 4000000 in
theorem bd_q {f p o : Nat} {h : xh_H} (c0 : cr h T n mem nn NM p o 0) (o6 : o ≤ 120) (nz : tkk T n p ≠ 0) (hq : a_rq a_tb h) : xq f xi_X4_readBody xmi_X4_readBody 0 [(0, .ref 3)] [] h (bc_Q h T n mem nn NM p o) := by
  have hT : ∀ k, k < n → T k < 256 := fun k hk' => (c0.1.2.2 k hk').1
  have kb := tkk_lt (T := T) (n := n) (p := p) hT
  have n6 := c0.1.2.1
  have s6 := tks_le (T := T) (n := n) (p := p)
  have mm := c0.2.2.2.2.1
  have n16 := c0.2.2.2.2.2.2.2.2.2.1.2.1
  refine xq_n 4 [0] [(0, .ref 3)] [.ref 8] h [] 4 hq rfl trivial (fun hq => ?_)
  have nz1 : tkk T n p ≠ 0 := by omega
  have le1 := tke_le nz1
  refine xq_run hq rfl rfl (adv_q hq hT (c0.1) (c0.2.2.1) ((c0.2.1.2.2.1 (by omega)).1) (by omega)) ?_
  rintro v1 h1 ⟨rfl, g1, t1⟩
  have hq := fx_q g1 hq
  have kb1 := tkk_lt (T := T) (n := n) (p := tke T n p) hT
  have s61 := tks_le (T := T) (n := n) (p := tke T n p)
  refine xq_n 24 [0, 1, 2] [(0, .ref 3), (1, .int (xg 0 h1.2.1 8 4)), (2, .int (xg 0 h1.2.1 8 5))] [.ref 3] h1 [] 11 hq rfl trivial (fun hq => ?_)
  rw [show (xg 0 h1.2.1 8 4) = (nI (tks T n (tke T n p))) from t1.2.1]
  refine xq_run hq rfl rfl (tnn_q ⟨ct_f (S := cS) (L := fN) (c0.1) (fx_w g1 (fun _ _ => sS_c) (fun _ _ z => z)) rfl (fun _ => rfl), t1, (fx_i g1 rfl).trans (c0.2.2.1), (fx_i g1 rfl).trans (c0.2.2.2.1), c0.2.2.2.2.1, (fx_i g1 rfl).trans (c0.2.2.2.2.2.1), by omega, (fx_i g1 rfl).trans (c0.2.2.2.2.2.2.2.1), by omega, cn_f (S := cS) (L := fN) (c0.2.2.2.2.2.2.2.2.2.1) (fx_w g1 (fun _ _ => sS_c) (fun _ _ z => z)) rfl (fun _ => rfl) (fun _ => rfl), (fx_i g1 rfl).trans (c0.2.2.2.2.2.2.2.2.2.2)⟩ hq) ?_
  rintro v2 h2 ⟨g2, l2, q2⟩
  have hq := fx_q g2 hq
  by_cases w2_0 : nmt T n (tke T n p) = false
  · obtain ⟨rfl, f2, y2, z2, e62, e2⟩ := q2 1 (tks T n (tke T n p)) (by unfold kT; rw [if_pos w2_0])
    refine xq_n 56 [] [] [.int (Int32.ofInt 0)] h2 [true] 4 hq rfl ⟨(by decide), trivial⟩ (fun hq => ?_)
    refine xq_ret rfl rfl rfl ⟨fx_w (fx_t (fx_t (fx_0) (fx_w g1 (fun _ _ => sS_c) (fun _ _ z => z))) (g2)) (fun _ _ => cS_t) (fun _ _ z => z), Or.inr ⟨rfl, 1, tks T n (tke T n p), f2, y2, ?_⟩⟩
    unfold Bdy
    repeat (first | rw [if_pos (by omega)] | rw [if_neg (by omega)] | rw [if_pos w2_0] | rw [if_neg w2_0] | rw [if_neg (by rw [w2_0]; decide)])
    try (exfalso; omega)
  · skip
    have w2_0t : nmt T n (tke T n p) = true := eq_true_of_ne_false w2_0
    have dw2_0 := of_decide_eq_true w2_0t
    by_cases w2_1 : hasn nn (nmW T NM) (tkw T n (tke T n p)) = true
    · obtain ⟨rfl, f2, y2, z2, e62, e2⟩ := q2 3 (tks T n (tke T n p)) (by unfold kT; rw [if_neg w2_0, if_pos w2_1])
      refine xq_n 56 [] [] [.int (Int32.ofInt 0)] h2 [true] 4 hq rfl ⟨(by decide), trivial⟩ (fun hq => ?_)
      refine xq_ret rfl rfl rfl ⟨fx_w (fx_t (fx_t (fx_0) (fx_w g1 (fun _ _ => sS_c) (fun _ _ z => z))) (g2)) (fun _ _ => cS_t) (fun _ _ z => z), Or.inr ⟨rfl, 3, tks T n (tke T n p), f2, y2, ?_⟩⟩
      unfold Bdy
      repeat (first | rw [if_pos (by omega)] | rw [if_neg (by omega)] | rw [if_pos w2_0] | rw [if_neg w2_0] | rw [if_neg (by rw [w2_0]; decide)] | rw [if_pos w2_1] | rw [if_neg w2_1] | rw [if_neg (by rw [w2_1]; decide)] | rw [if_pos w2_0t] | rw [if_neg w2_0t] | rw [if_neg (by rw [w2_0t]; decide)])
      try (exfalso; omega)
    · skip
      by_cases w2_2 : 16 ≤ nn
      · obtain ⟨rfl, f2, y2, z2, e62, e2⟩ := q2 4 (tks T n (tke T n p)) (by unfold kT; rw [if_neg w2_0, if_neg w2_1, if_pos w2_2])
        refine xq_n 56 [] [] [.int (Int32.ofInt 0)] h2 [true] 4 hq rfl ⟨(by decide), trivial⟩ (fun hq => ?_)
        refine xq_ret rfl rfl rfl ⟨fx_w (fx_t (fx_t (fx_0) (fx_w g1 (fun _ _ => sS_c) (fun _ _ z => z))) (g2)) (fun _ _ => cS_t) (fun _ _ z => z), Or.inr ⟨rfl, 4, tks T n (tke T n p), f2, y2, ?_⟩⟩
        unfold Bdy
        repeat (first | rw [if_pos (by omega)] | rw [if_neg (by omega)] | rw [if_pos w2_0] | rw [if_neg w2_0] | rw [if_neg (by rw [w2_0]; decide)] | rw [if_pos w2_1] | rw [if_neg w2_1] | rw [if_neg (by rw [w2_1]; decide)] | rw [if_pos w2_2] | rw [if_neg w2_2] | rw [if_neg (by rw [w2_2]; decide)] | rw [if_pos w2_0t] | rw [if_neg w2_0t] | rw [if_neg (by rw [w2_0t]; decide)])
        try (exfalso; omega)
      · skip
        obtain ⟨rfl, c2⟩ := l2 (tke T n (tke T n p)) (o) (0) (by unfold kT; rw [if_neg w2_0, if_neg w2_1, if_neg w2_2])
        have kb2 := tkk_lt (T := T) (n := n) (p := tke T n (tke T n p)) hT
        have s62 := tks_le (T := T) (n := n) (p := tke T n (tke T n p))
        refine xq_n 33 [0, 1, 2] [(0, .ref 3), (1, .int (nI (tks T n (tke T n p)))), (2, .int (xg 0 h1.2.1 8 5))] [.int 58, .ref 3] h2 [false] 5 hq rfl ⟨(by decide), trivial⟩ (fun hq => ?_)
        refine xq_run hq rfl rfl (ts_q (c := 58) (by decide) (by decide) c2 hq) ?_
        rintro v3 h3 ⟨g3, l3, q3⟩
        have hq := fx_q g3 hq
        by_cases w3_0 : tkk T n (tke T n (tke T n p)) ≠ 58
        · obtain ⟨rfl, f3, y3, z3, e63, e3⟩ := q3 1 (tks T n (tke T n (tke T n p))) (by unfold kS; rw [if_pos w3_0])
          refine xq_n 56 [] [] [.int (Int32.ofInt 0)] h3 [true] 4 hq rfl ⟨(by decide), trivial⟩ (fun hq => ?_)
          refine xq_ret rfl rfl rfl ⟨fx_w (fx_t (fx_t (fx_t (fx_0) (fx_w g1 (fun _ _ => sS_c) (fun _ _ z => z))) (g2)) (g3)) (fun _ _ => cS_t) (fun _ _ z => z), Or.inr ⟨rfl, 1, tks T n (tke T n (tke T n p)), f3, y3, ?_⟩⟩
          unfold Bdy
          repeat (first | rw [if_pos (by omega)] | rw [if_neg (by omega)] | rw [if_pos w2_0] | rw [if_neg w2_0] | rw [if_neg (by rw [w2_0]; decide)] | rw [if_pos w2_1] | rw [if_neg w2_1] | rw [if_neg (by rw [w2_1]; decide)] | rw [if_pos w2_2] | rw [if_neg w2_2] | rw [if_neg (by rw [w2_2]; decide)] | rw [if_pos w2_0t] | rw [if_neg w2_0t] | rw [if_neg (by rw [w2_0t]; decide)] | rw [if_pos w3_0] | rw [if_neg w3_0] | rw [if_neg (by rw [w3_0]; decide)])
          try (exfalso; omega)
        · skip
          obtain ⟨rfl, c3⟩ := l3 (tke T n (tke T n (tke T n p))) (o) (0) (by unfold kS; rw [if_neg w3_0])
          have kb3 := tkk_lt (T := T) (n := n) (p := tke T n (tke T n (tke T n p))) hT
          have s63 := tks_le (T := T) (n := n) (p := tke T n (tke T n (tke T n p)))
          refine xq_n 40 [0, 1, 2] [(0, .ref 3), (1, .int (nI (tks T n (tke T n p)))), (2, .int (xg 0 h1.2.1 8 5))] [.ref 3] h3 [false] 4 hq rfl ⟨(by decide), trivial⟩ (fun hq => ?_)
          refine xq_run hq rfl rfl ((rd_all f).2.2.1 _ _ _ _ c3 (by omega) (by omega) hq) ?_
          rintro v4 h4 ⟨g4, ⟨rfl, pq4, oq4, c4, lt4, le4, G4⟩ | ⟨rfl, kq4, lq4, f4, y4, B4⟩⟩
          · have hq := fx_q g4 hq
            have kb4 := tkk_lt (T := T) (n := n) (p := pq4) hT
            have s64 := tks_le (T := T) (n := n) (p := pq4)
            refine xq_n 49 [0, 1, 2] [(0, .ref 3), (1, .int (nI (tks T n (tke T n p)))), (2, .int (xg 0 h1.2.1 8 5))] [.int 59, .ref 3] h4 [false] 5 hq rfl ⟨(by decide), trivial⟩ (fun hq => ?_)
            refine xq_run hq rfl rfl (ts_q (c := 59) (by decide) (by decide) c4 hq) ?_
            rintro v5 h5 ⟨g5, l5, q5⟩
            have hq := fx_q g5 hq
            by_cases w5_0 : tkk T n pq4 ≠ 59
            · obtain ⟨rfl, f5, y5, z5, e65, e5⟩ := q5 1 (tks T n pq4) (by unfold kS; rw [if_pos w5_0])
              refine xq_n 56 [] [] [.int (Int32.ofInt 0)] h5 [false] 4 hq rfl ⟨(by decide), trivial⟩ (fun hq => ?_)
              refine xq_ret rfl rfl rfl ⟨fx_w (fx_t (fx_t (fx_t (fx_t (fx_t (fx_0) (fx_w g1 (fun _ _ => sS_c) (fun _ _ z => z))) (g2)) (g3)) (g4)) (g5)) (fun _ _ => cS_t) (fun _ _ z => z), Or.inr ⟨rfl, 1, tks T n pq4, f5, y5, ?_⟩⟩
              unfold Bdy
              repeat (first | rw [if_pos (by omega)] | rw [if_neg (by omega)] | rw [if_pos w2_0] | rw [if_neg w2_0] | rw [if_neg (by rw [w2_0]; decide)] | rw [if_pos w2_1] | rw [if_neg w2_1] | rw [if_neg (by rw [w2_1]; decide)] | rw [if_pos w2_2] | rw [if_neg w2_2] | rw [if_neg (by rw [w2_2]; decide)] | rw [if_pos w2_0t] | rw [if_neg w2_0t] | rw [if_neg (by rw [w2_0t]; decide)] | rw [if_pos w3_0] | rw [if_neg w3_0] | rw [if_neg (by rw [w3_0]; decide)] | rw [if_pos w5_0] | rw [if_neg w5_0] | rw [if_neg (by rw [w5_0]; decide)])
              exact ⟨.inr (1, tks T n pq4), Or.inl ⟨_, _, rfl, Fl_t (G4.2.2 0 [] (by decide) rfl) (Fl_1 (by rw [enE]; unfold en; rw [if_neg (by intro z; cases z), if_neg (by rw [G4.1]; decide), if_neg (by rw [G4.2.1]; decide), if_pos (show [0].head? = some 0 from rfl), if_neg (by omega)]))⟩, rfl⟩
            · skip
              obtain ⟨rfl, c5⟩ := l5 (tke T n pq4) (oq4) (0) (by unfold kS; rw [if_neg w5_0])
              have kb5 := tkk_lt (T := T) (n := n) (p := tke T n pq4) hT
              have s65 := tks_le (T := T) (n := n) (p := tke T n pq4)
              refine xq_n 57 [0, 1, 2] [(0, .ref 3), (1, .int (nI (tks T n (tke T n p)))), (2, .int (xg 0 h1.2.1 8 5))] [] h5 [true] 3 hq rfl ⟨(by decide), trivial⟩ (fun hq => ?_)
              have cE : cr h5 T n mem nn NM (tke T n pq4) (oq4) 0 := c5
              have gE : fx cS fN h h5 := fx_t (fx_t (fx_t (fx_t (fx_t (fx_0) (fx_w g1 (fun _ _ => sS_c) (fun _ _ z => z))) (g2)) (g3)) (g4)) (g5)
              have hB : Bdy T n mem nn (nmW T NM) p o (.inl (tke T n pq4, oq4, tkw T n (tke T n p))) := by
                unfold Bdy
                repeat (first | rw [if_pos (by omega)] | rw [if_neg (by omega)] | rw [if_pos w2_0] | rw [if_neg w2_0] | rw [if_neg (by rw [w2_0]; decide)] | rw [if_pos w2_1] | rw [if_neg w2_1] | rw [if_neg (by rw [w2_1]; decide)] | rw [if_pos w2_2] | rw [if_neg w2_2] | rw [if_neg (by rw [w2_2]; decide)] | rw [if_pos w2_0t] | rw [if_neg w2_0t] | rw [if_neg (by rw [w2_0t]; decide)] | rw [if_pos w3_0] | rw [if_neg w3_0] | rw [if_neg (by rw [w3_0]; decide)] | rw [if_pos w5_0] | rw [if_neg w5_0] | rw [if_neg (by rw [w5_0]; decide)])
                exact ⟨.inl (tke T n pq4, oq4), Or.inr ⟨_, _, rfl, Rc_t (G4.2.2 0 [] (by decide) rfl) (Rc_1 (by rw [enE]; unfold en; rw [if_neg (by intro z; cases z), if_neg (by rw [G4.1]; decide), if_neg (by rw [G4.2.1]; decide), if_pos (show [0].head? = some 0 from rfl), if_pos (by omega)]))⟩, rfl⟩
              rw [show xg 0 h1.2.1 8 5 = nI (tke T n (tke T n p)) from (t1.2.2.1 (by omega)).2]
              exact bd_end hq cE gE (by omega) (by omega) (by omega) hB
          · have hq := fx_q g4 hq
            refine xq_n 56 [] [] [.int (Int32.ofInt 0)] h4 [true] 4 hq rfl ⟨(by decide), trivial⟩ (fun hq => ?_)
            refine xq_ret rfl rfl rfl ⟨fx_w (fx_t (fx_t (fx_t (fx_t (fx_0) (fx_w g1 (fun _ _ => sS_c) (fun _ _ z => z))) (g2)) (g3)) (g4)) (fun _ _ => cS_t) (fun _ _ z => z), Or.inr ⟨rfl, kq4, lq4, f4, y4, ?_⟩⟩
            unfold Bdy
            repeat (first | rw [if_pos (by omega)] | rw [if_neg (by omega)] | rw [if_pos w2_0] | rw [if_neg w2_0] | rw [if_neg (by rw [w2_0]; decide)] | rw [if_pos w2_1] | rw [if_neg w2_1] | rw [if_neg (by rw [w2_1]; decide)] | rw [if_pos w2_2] | rw [if_neg w2_2] | rw [if_neg (by rw [w2_2]; decide)] | rw [if_pos w2_0t] | rw [if_neg w2_0t] | rw [if_neg (by rw [w2_0t]; decide)] | rw [if_pos w3_0] | rw [if_neg w3_0] | rw [if_neg (by rw [w3_0]; decide)])
            exact ⟨.inr (kq4, lq4), Or.inl ⟨_, _, rfl, B4 0 [] (by decide) rfl⟩, rfl⟩
end XRP
end
section
section XRQ
variable {T : Nat → Nat} {n mem nn : Nat} {NM : Nat → Nat × Nat}
/-- what a text's reading leaves in the class -/
def tx_O (r : Sum Nat (Nat × Nat)) (h' : xh_H) : Prop := (∀ m, r = .inl m → xg 0 h'.2.1 3 8 = nI 0 ∧ xg 0 h'.2.1 3 7 = nI m ∧ m ≤ 16) ∧ ∀ k pl, r = .inr (k, pl) → xg 0 h'.2.1 3 8 = nI k ∧ xg 0 h'.2.1 3 9 = nI pl
def rt_Q (h0 : xh_H) (T : Nat → Nat) (n mem p o nn : Nat) (NW : Nat → Nat) (v : Option Value) (h' : xh_H) : Prop := v = none ∧ fx cT fN h0 h' ∧ ∃ j r, Tx T n mem j p o nn NW r ∧ tx_O r h'
set_option maxRecDepth 100000 in
set_option maxHeartbeats 4000000 in
theorem rd_z {f : Nat} {x : Int32} {h : xh_H} (hq : a_rq a_tb h) : xq f xi_X4_read xmi_X4_read 48 [(0, .ref 3), (2, .int (Int32.ofInt 0)), (3, .int x)] [] h (fun v h' => h = h' ∧ v = none) := by
  cases c1 : xe_c .gt x 16 with
  | true =>
    refine xq_n 115 [] [] [] h [true, true] 7 hq rfl ⟨c1, (by decide), trivial⟩ (fun hq => ?_)
    exact xq_ret rfl rfl rfl ⟨rfl, rfl⟩
  | false =>
    refine xq_n 115 [] [] [] h [false, true, true] 9 hq rfl ⟨c1, (by decide), (by decide), trivial⟩ (fun hq => ?_)
    exact xq_ret rfl rfl rfl ⟨rfl, rfl⟩
set_option maxRecDepth 100000 in
set_option maxHeartbeats 4000000 in
theorem rd_fin {f p o : Nat} {h0 h : xh_H} (c0 : cr h T n mem nn NM p o 0) (g0 : fx cT fN h0 h) (o6 : o ≤ 120) (hb0 : ky T n p 0 = false) (hq : a_rq a_tb h) : xq f xi_X4_read xmi_X4_read 81 [(0, .ref 3), (2, .int (Int32.ofInt 1))] [] h (rt_Q h0 T n mem p o nn (nmW T NM)) := by
  have hT : ∀ k, k < n → T k < 256 := fun k hk' => (c0.1.2.2 k hk').1
  have kb := tkk_lt (T := T) (n := n) (p := p) hT
  have n6 := c0.1.2.1
  have s6 := tks_le (T := T) (n := n) (p := p)
  have mm := c0.2.2.2.2.1
  have n16 := c0.2.2.2.2.2.2.2.2.2.1.2.1
  refine xq_n 88 [0, 2] [(0, .ref 3), (2, .int (Int32.ofInt 1))] [.float 3, .ref 3] h [false] 6 hq rfl ⟨(by decide), trivial⟩ (fun hq => ?_)
  refine xq_run hq rfl rfl (tw1_q c0 hq) ?_
  rintro v1 h1 ⟨g1, l1, q1⟩
  have hq := fx_q g1 hq
  by_cases w1_0 : ky T n p 1 = false
  · obtain ⟨rfl, f1, y1, z1, e61, e1⟩ := q1 1 (tks T n p) (by unfold kW; rw [if_pos w1_0])
    refine xq_n 115 [] [] [] h1 [true] 3 hq rfl ⟨(by decide), trivial⟩ (fun hq => ?_)
    refine xq_ret rfl rfl rfl ⟨rfl, fx_t g0 (fx_w (fx_t (fx_0) (g1)) (fun _ _ => cS_t) (fun _ _ z => z)), 0, .inr (1, tks T n p), ⟨hb0, ?_⟩, fun _ e => (by cases e), fun _ _ e => by cases e; exact ⟨f1, y1⟩⟩
    unfold Fin_
    rw [if_pos w1_0]
  · skip
    have w1_0t : ky T n p 1 = true := eq_true_of_ne_false w1_0
    have dw1_0 := of_decide_eq_true w1_0t
    obtain ⟨rfl, c1⟩ := l1 (tke T n p) (o) (0) (by unfold kW; rw [if_neg w1_0])
    have kb1 := tkk_lt (T := T) (n := n) (p := tke T n p) hT
    have s61 := tks_le (T := T) (n := n) (p := tke T n p)
    refine xq_n 95 [0, 2] [(0, .ref 3), (2, .int (Int32.ofInt 1))] [.ref 3] h1 [false] 4 hq rfl ⟨(by decide), trivial⟩ (fun hq => ?_)
    refine xq_run hq rfl rfl ((rd_all f).2.2.1 _ _ _ _ c1 (by omega) (by omega) hq) ?_
    rintro v2 h2 ⟨g2, ⟨rfl, pq2, oq2, c2, lt2, le2, G2⟩ | ⟨rfl, kq2, lq2, f2, y2, B2⟩⟩
    · have hq := fx_q g2 hq
      have kb2 := tkk_lt (T := T) (n := n) (p := pq2) hT
      have s62 := tks_le (T := T) (n := n) (p := pq2)
      refine xq_n 104 [0, 2] [(0, .ref 3), (2, .int (Int32.ofInt 1))] [.int 59, .ref 3] h2 [false] 5 hq rfl ⟨(by decide), trivial⟩ (fun hq => ?_)
      refine xq_run hq rfl rfl (ts_q (c := 59) (by decide) (by decide) c2 hq) ?_
      rintro v3 h3 ⟨g3, l3, q3⟩
      have hq := fx_q g3 hq
      by_cases w3_0 : tkk T n pq2 ≠ 59
      · obtain ⟨rfl, f3, y3, z3, e63, e3⟩ := q3 1 (tks T n pq2) (by unfold kS; rw [if_pos w3_0])
        refine xq_n 115 [] [] [] h3 [true] 3 hq rfl ⟨(by decide), trivial⟩ (fun hq => ?_)
        refine xq_ret rfl rfl rfl ⟨rfl, fx_t g0 (fx_w (fx_t (fx_t (fx_t (fx_0) (g1)) (g2)) (g3)) (fun _ _ => cS_t) (fun _ _ z => z)), 0, .inr (1, tks T n pq2), ⟨hb0, ?_⟩, fun _ e => (by cases e), fun _ _ e => by cases e; exact ⟨f3, y3⟩⟩
        unfold Fin_
        rw [if_neg w1_0]
        exact ⟨.inr (1, tks T n pq2), Or.inl ⟨_, _, rfl, Fl_t (G2.2.2 0 [] (by decide) rfl) (Fl_1 (by rw [enE]; unfold en; rw [if_neg (by intro z; cases z), if_neg (by rw [G2.1]; decide), if_neg (by rw [G2.2.1]; decide), if_pos (show [0].head? = some 0 from rfl), if_neg (by omega)]))⟩, Or.inl ⟨_, _, rfl, rfl⟩⟩
      · skip
        obtain ⟨rfl, c3⟩ := l3 (tke T n pq2) (oq2) (0) (by unfold kS; rw [if_neg w3_0])
        have kb3 := tkk_lt (T := T) (n := n) (p := tke T n pq2) hT
        have s63 := tks_le (T := T) (n := n) (p := tke T n pq2)
        refine xq_n 111 [0, 2] [(0, .ref 3), (2, .int (Int32.ofInt 1))] [.ref 3] h3 [false] 4 hq rfl ⟨(by decide), trivial⟩ (fun hq => ?_)
        refine xq_run hq rfl rfl (te_q c3 hq) ?_
        rintro v4 h4 ⟨g4, l4, q4⟩
        have hq := fx_q g4 hq
        by_cases w4 : tkk T n (tke T n pq2) = 0 ∧ n ≤ 600
        · obtain ⟨rfl, c4⟩ := l4 (tke T n pq2) (oq2) (0) (by unfold kE; rw [if_pos w4])
          refine xq_n 115 [] [] [] h4 [] 3 hq rfl trivial (fun hq => ?_)
          refine xq_ret rfl rfl rfl ⟨rfl, fx_t g0 (fx_w (fx_t (fx_t (fx_t (fx_t (fx_0) (g1)) (g2)) (g3)) (g4)) (fun _ _ => cS_t) (fun _ _ z => z)), 0, .inl nn, ⟨hb0, ?_⟩, fun _ e => by cases e; exact ⟨c4.2.2.2.2.2.2.2.2.2.2, c4.2.2.2.2.2.2.2.2.2.1.1, n16⟩, fun _ _ e => (by cases e)⟩
          unfold Fin_
          rw [if_neg w1_0]
          exact ⟨.inl (tke T n pq2, oq2), Or.inr ⟨_, _, rfl, Rc_t (G2.2.2 0 [] (by decide) rfl) (Rc_1 (by rw [enE]; unfold en; rw [if_neg (by intro z; cases z), if_neg (by rw [G2.1]; decide), if_neg (by rw [G2.2.1]; decide), if_pos (show [0].head? = some 0 from rfl), if_pos (by omega)]))⟩, Or.inr ⟨_, _, rfl, by rw [if_pos (rk0.mpr w4)]⟩⟩
        · obtain ⟨rfl, f4, y4, -⟩ := q4 1 (tks T n (tke T n pq2)) (by unfold kE; rw [if_neg w4])
          refine xq_n 115 [] [] [] h4 [] 3 hq rfl trivial (fun hq => ?_)
          refine xq_ret rfl rfl rfl ⟨rfl, fx_t g0 (fx_w (fx_t (fx_t (fx_t (fx_t (fx_0) (g1)) (g2)) (g3)) (g4)) (fun _ _ => cS_t) (fun _ _ z => z)), 0, .inr (1, tks T n (tke T n pq2)), ⟨hb0, ?_⟩, fun _ e => (by cases e), fun _ _ e => by cases e; exact ⟨f4, y4⟩⟩
          unfold Fin_
          rw [if_neg w1_0]
          exact ⟨.inl (tke T n pq2, oq2), Or.inr ⟨_, _, rfl, Rc_t (G2.2.2 0 [] (by decide) rfl) (Rc_1 (by rw [enE]; unfold en; rw [if_neg (by intro z; cases z), if_neg (by rw [G2.1]; decide), if_neg (by rw [G2.2.1]; decide), if_pos (show [0].head? = some 0 from rfl), if_pos (by omega)]))⟩, Or.inr ⟨_, _, rfl, by rw [if_neg (fun e => w4 (rk0.mp e))]⟩⟩
    · have hq := fx_q g2 hq
      refine xq_n 115 [] [] [] h2 [true] 3 hq rfl ⟨(by decide), trivial⟩ (fun hq => ?_)
      refine xq_ret rfl rfl rfl ⟨rfl, fx_t g0 (fx_w (fx_t (fx_t (fx_0) (g1)) (g2)) (fun _ _ => cS_t) (fun _ _ z => z)), 0, .inr (kq2, lq2), ⟨hb0, ?_⟩, fun _ e => (by cases e), fun _ _ e => by cases e; exact ⟨f2, y2⟩⟩
      unfold Fin_
      rw [if_neg w1_0]
      exact ⟨.inr (kq2, lq2), Or.inl ⟨_, _, rfl, B2 0 [] (by decide) rfl⟩, Or.inl ⟨_, _, rfl, rfl⟩⟩
set_option maxRecDepth 100000 in
set_option maxHeartbeats 4000000 in
theorem rdb_lp {h0 : xh_H} : ∀ (f nn p o : Nat) (NM : Nat → Nat × Nat) (h : xh_H), cr h T n mem nn NM p o 0 → fx cT fN h0 h → o ≤ 120 → a_rq a_tb h → xq f xi_X4_read xmi_X4_read 48 [(0, .ref 3), (2, .int (Int32.ofInt 1)), (3, .int (nI nn))] [] h (rt_Q h0 T n mem p o nn (nmW T NM)) := by
  intro f
  induction f with
  | zero => intros; exact xq_0
  | succ f ih =>
    intro nn p o NM h c0 g0 o6 hq
    have n16 := c0.2.2.2.2.2.2.2.2.2.1.2.1
    refine xq_m 64 [0, 2, 3] [(0, .ref 3), (2, .int (Int32.ofInt 1)), (3, .int (nI nn))] [.float 2, .ref 8] h [false, false] 10 hq rfl ⟨(show xe_c .gt (nI nn) 16 = false by exact xgt_f (by rw [nI_toInt (by omega)]; show ((nn : Nat) : Int) ≤ 16; omega)), by decide, trivial⟩ (fun hq => ?_)
    refine xq_run hq rfl rfl (iw0_q c0.1 c0.2.1 hq) ?_
    rintro v h1 ⟨rfl, rfl⟩
    cases b : ky T n p 0 with
    | false =>
      refine xq_n 81 [0, 2] [(0, .ref 3), (2, .int (Int32.ofInt 1))] [] h [true] 3 hq rfl ⟨rfl, trivial⟩ (fun hq => ?_)
      exact rd_fin c0 g0 o6 b hq
    | true =>
      have db := of_decide_eq_true b
      refine xq_n 71 [0, 3] [(0, .ref 3), (3, .int (nI nn))] [.ref 3] h [false] 4 hq rfl ⟨rfl, trivial⟩ (fun hq => ?_)
      refine xq_run hq rfl rfl (bd_q c0 o6 (by omega) hq) ?_
      rintro v h1 ⟨g1, ⟨rfl, n15, p', o', o7, c1, hB⟩ | ⟨rfl, k, pl, f1, f2, hB⟩⟩
      · have hq := fx_q g1 hq
        refine xq_n 48 [0, 2, 3] [(0, .ref 3), (2, .int (Int32.ofInt 1)), (3, .int ((nI nn) + Int32.ofInt 1))] [] h1 [] 5 hq rfl trivial (fun hq => ?_)
        rw [show nI nn + Int32.ofInt 1 = nI (nn + 1) from nI_1 _]
        refine xq_mono (ih (nn + 1) p' o' _ h1 c1 (fx_t g0 g1) o7 hq) (fun v h' e => ?_)
        obtain ⟨e1, e2, j, r, e3, e4⟩ := e
        rw [nmW_up] at e3
        exact ⟨e1, e2, j + 1, r, ⟨b, _, hB, Or.inr ⟨_, _, _, rfl, e3⟩⟩, e4⟩
      · have hq := fx_q g1 hq
        refine xq_n 48 [0, 2, 3] [(0, .ref 3), (2, .int (Int32.ofInt 0)), (3, .int ((nI nn) + Int32.ofInt 1))] [] h1 [] 5 hq rfl trivial (fun hq => ?_)
        refine xq_mono (rd_z hq) (fun v h' e => ?_)
        obtain ⟨rfl, rfl⟩ := e
        exact ⟨rfl, fx_t g0 g1, 1, .inr (k, pl), ⟨b, _, hB, Or.inl ⟨_, _, rfl, rfl⟩⟩, fun _ e => (by cases e), fun _ _ e => by cases e; exact ⟨f1, f2⟩⟩
set_option maxRecDepth 100000 in
set_option maxHeartbeats 4000000 in
theorem beg_q {f : Nat} {h : xh_H} (hc : ct h T n) (hq : a_rq a_tb h) : xq f xi_X6_begin xmi_X6_begin 0 [(0, .ref 8)] [] h (fun v h' => v = none ∧ fx (fun c _ => Nat.beq c 8) fN h h' ∧ tok h' T n 0 ∧ xg 0 h'.2.1 8 1 = nI (min n 600)) := by
  have n6 := hc.2.1
  have hT : ∀ k, k < n → T k < 256 := fun k hk' => (hc.2.2 k hk').1
  refine xq_n 23 [0] [(0, .ref 8)] [.ref 8] (xh_ui (xh_ui h 8 1 (if 600 < (xg 0 h.2.1 1 1) then 600 else (xg 0 h.2.1 1 1))) 8 2 (Int32.ofInt 0)) [] 13 hq rfl trivial (fun _ => ?_)
  rw [hc.1, show (if (600 : Int32) < nI n then 600 else nI n) = nI (min n 600) from nI_min (a := n) (b := 600) (by omega) (by decide)]
  have hq : a_rq a_tb (xh_ui (xh_ui h 8 1 (nI (min n 600))) 8 2 (Int32.ofInt 0)) := a_rq_ui (a_rq_ui hq)
  have g1 : fx (fun c _ => Nat.beq c 8) fN h (xh_ui (xh_ui h 8 1 (nI (min n 600))) 8 2 (Int32.ofInt 0)) := fx_ui (fx_ui fx_0 rfl) rfl
  have e1 : xg 0 (xh_ui (xh_ui h 8 1 (nI (min n 600))) 8 2 (Int32.ofInt 0)).2.1 8 1 = nI (min n 600) := (gx_k (by decide)).trans gx_s
  have e2 : xg 0 (xh_ui (xh_ui h 8 1 (nI (min n 600))) 8 2 (Int32.ofInt 0)).2.1 8 2 = nI 0 := gx_s
  generalize xh_ui (xh_ui h 8 1 (nI (min n 600))) 8 2 (Int32.ofInt 0) = h1 at hq g1 e1 e2 ⊢
  refine xq_run hq rfl rfl (adv_q hq hT (ct_f hc g1 rfl (fun _ => rfl)) e1 e2 (by decide)) ?_
  rintro v h2 ⟨rfl, g2, t2⟩
  exact xq_ret rfl rfl rfl ⟨rfl, fx_t g1 (fx_w g2 (fun c k z => by unfold sS; rw [z]; rfl) (fun _ _ z => z)), t2, (fx_i g2 rfl).trans e1⟩
def cU (c k : Nat) : Bool := Nat.beq c 8 || (Nat.beq c 3 || ((Nat.beq c 4 && Nat.beq k 3) || (Nat.beq c 5 || (Nat.beq c 6 || (Nat.beq c 9 || Nat.beq c 10)))))
theorem cT_u {c k : Nat} (h : cU c k = false) : cT c k = false := by
  unfold cU at h
  obtain ⟨h8, h⟩ := or_f h
  obtain ⟨h3, h⟩ := or_f h
  obtain ⟨h4, h⟩ := or_f h
  obtain ⟨h5, h⟩ := or_f h
  obtain ⟨h6, h⟩ := or_f h
  obtain ⟨h9, h10⟩ := or_f h
  unfold cT cS
  rw [h8, h3, h4, h5, h6, h9, h10]
  rfl
set_option maxRecDepth 100000 in
set_option maxHeartbeats 4000000 in
/-- Reader.read -/
theorem read_q {f : Nat} {h : xh_H} (hc : ct h T n) (m12 : mem ≤ 12) (hq : a_rq a_tb h) : xq f xi_X4_read xmi_X4_read 0 [(0, .ref 3), (1, .int (nI mem))] [] h (fun v h' => v = none ∧ fx cU fN h h' ∧ ∃ j r, Tx T n mem j 0 0 0 (nmW T (fun _ => (0, 0))) r ∧ tx_O r h') := by
  refine xq_n 4 [0, 1] [(0, .ref 3), (1, .int (nI mem))] [.ref 4] h [] 4 hq rfl trivial (fun hq => ?_)
  refine xq_run (Q1 := fun v h' => v = none ∧ fx aS_ fN h h') hq rfl rfl ?_ ?_
  · refine xq_n 5 [] [] [] (xh_ui h 4 3 (Int32.ofInt 0)) [] 5 hq rfl trivial (fun _ => ?_)
    exact xq_ret rfl rfl rfl ⟨rfl, fx_ui fx_0 rfl⟩
  rintro v h1 ⟨rfl, g1⟩
  have hq := fx_q g1 hq
  refine xq_n 41 [0] [(0, .ref 3)] [.ref 8] (xh_ui (xh_ui (xh_ui (xh_ui (xh_ui (xh_ui h1 3 4 (nI mem)) 3 5 (Int32.ofInt 0)) 3 6 (Int32.ofInt 0)) 3 7 (Int32.ofInt 0)) 3 8 (Int32.ofInt 0)) 3 9 (Int32.ofInt 0)) [] 24 hq rfl trivial (fun _ => ?_)
  have hq : a_rq a_tb (xh_ui (xh_ui (xh_ui (xh_ui (xh_ui (xh_ui h1 3 4 (nI mem)) 3 5 (Int32.ofInt 0)) 3 6 (Int32.ofInt 0)) 3 7 (Int32.ofInt 0)) 3 8 (Int32.ofInt 0)) 3 9 (Int32.ofInt 0)) := a_rq_ui (a_rq_ui (a_rq_ui (a_rq_ui (a_rq_ui (a_rq_ui hq)))))
  have g2 : fx cU fN h (xh_ui (xh_ui (xh_ui (xh_ui (xh_ui (xh_ui h1 3 4 (nI mem)) 3 5 (Int32.ofInt 0)) 3 6 (Int32.ofInt 0)) 3 7 (Int32.ofInt 0)) 3 8 (Int32.ofInt 0)) 3 9 (Int32.ofInt 0)) := fx_ui (fx_ui (fx_ui (fx_ui (fx_ui (fx_ui (fx_w g1 (fun c k z => by obtain ⟨-, z⟩ := or_f z; obtain ⟨-, z⟩ := or_f z; obtain ⟨z4, z⟩ := or_f z; obtain ⟨z5, z⟩ := or_f z; obtain ⟨z6, -⟩ := or_f z; unfold aS_; rw [z4, z5, z6]; rfl) (fun _ _ z => z)) rfl) rfl) rfl) rfl) rfl) rfl
  have e4 : xg 0 (xh_ui (xh_ui (xh_ui (xh_ui (xh_ui (xh_ui h1 3 4 (nI mem)) 3 5 (Int32.ofInt 0)) 3 6 (Int32.ofInt 0)) 3 7 (Int32.ofInt 0)) 3 8 (Int32.ofInt 0)) 3 9 (Int32.ofInt 0)).2.1 3 4 = nI mem := (gx_k (by decide)).trans ((gx_k (by decide)).trans ((gx_k (by decide)).trans ((gx_k (by decide)).trans ((gx_k (by decide)).trans gx_s))))
  have e5 : xg 0 (xh_ui (xh_ui (xh_ui (xh_ui (xh_ui (xh_ui h1 3 4 (nI mem)) 3 5 (Int32.ofInt 0)) 3 6 (Int32.ofInt 0)) 3 7 (Int32.ofInt 0)) 3 8 (Int32.ofInt 0)) 3 9 (Int32.ofInt 0)).2.1 3 5 = nI 0 := (gx_k (by decide)).trans ((gx_k (by decide)).trans ((gx_k (by decide)).trans ((gx_k (by decide)).trans gx_s)))
  have e6 : xg 0 (xh_ui (xh_ui (xh_ui (xh_ui (xh_ui (xh_ui h1 3 4 (nI mem)) 3 5 (Int32.ofInt 0)) 3 6 (Int32.ofInt 0)) 3 7 (Int32.ofInt 0)) 3 8 (Int32.ofInt 0)) 3 9 (Int32.ofInt 0)).2.1 3 6 = nI 0 := (gx_k (by decide)).trans ((gx_k (by decide)).trans ((gx_k (by decide)).trans gx_s))
  have e7 : xg 0 (xh_ui (xh_ui (xh_ui (xh_ui (xh_ui (xh_ui h1 3 4 (nI mem)) 3 5 (Int32.ofInt 0)) 3 6 (Int32.ofInt 0)) 3 7 (Int32.ofInt 0)) 3 8 (Int32.ofInt 0)) 3 9 (Int32.ofInt 0)).2.1 3 7 = nI 0 := (gx_k (by decide)).trans ((gx_k (by decide)).trans gx_s)
  have e8 : xg 0 (xh_ui (xh_ui (xh_ui (xh_ui (xh_ui (xh_ui h1 3 4 (nI mem)) 3 5 (Int32.ofInt 0)) 3 6 (Int32.ofInt 0)) 3 7 (Int32.ofInt 0)) 3 8 (Int32.ofInt 0)) 3 9 (Int32.ofInt 0)).2.1 3 8 = nI 0 := (gx_k (by decide)).trans gx_s
  generalize xh_ui (xh_ui (xh_ui (xh_ui (xh_ui (xh_ui h1 3 4 (nI mem)) 3 5 (Int32.ofInt 0)) 3 6 (Int32.ofInt 0)) 3 7 (Int32.ofInt 0)) 3 8 (Int32.ofInt 0)) 3 9 (Int32.ofInt 0) = h2 at hq g2 e4 e5 e6 e7 e8 ⊢
  refine xq_run hq rfl rfl (beg_q (ct_f hc g2 rfl (fun _ => rfl)) hq) ?_
  rintro v h3 ⟨rfl, g3, t3, l3⟩
  have hq := fx_q g3 hq
  have g4 : fx cU fN h h3 := fx_t g2 (fx_w g3 (fun c k z => (or_f z).1) (fun _ _ z => z))
  refine xq_n 48 [0, 2, 3] [(0, .ref 3), (2, .int (Int32.ofInt 1)), (3, .int (Int32.ofInt 0))] [] h3 [] 6 hq rfl trivial (fun hq => ?_)
  have c3 : cr h3 T n mem 0 (fun _ => (0, 0)) 0 0 0 := ⟨ct_f hc g4 rfl (fun _ => rfl), t3, l3, (fx_i g3 rfl).trans e4, m12, (fx_i g3 rfl).trans e5, by decide, (fx_i g3 rfl).trans e6, by decide, ⟨(fx_i g3 rfl).trans e7, by decide, fun k hk' => absurd hk' (Nat.not_lt_zero k)⟩, (fx_i g3 rfl).trans e8⟩
  refine xq_mono (rdb_lp f 0 0 0 _ h3 c3 fx_0 (by decide) hq) (fun v h' e => ?_)
  obtain ⟨e1, e2, e3⟩ := e
  exact ⟨e1, fx_t g4 (fx_w e2 (fun _ _ => cT_u) (fun _ _ z => z)), e3⟩
end XRQ
end
section
section XSU1
variable {T : Nat → Nat} {n mem nn : Nat} {NW : Nat → Nat}
/-! a fault's kind is not 0 -/
theorem bls_k {p o k pl : Nat} {fs : List Nat} (e : bls T n p o fs = .inr (k, pl)) : 1 ≤ k ∧ k ≤ 4 := by
  unfold bls at e
  repeat' split at e
  all_goals first | (cases e; done) | (cases e; decide)
theorem bo_k {p o k pl : Nat} {fs : List Nat} (e : bo T n mem nn NW p o fs = .inr (k, pl)) : 1 ≤ k ∧ k ≤ 4 := by
  unfold bo at e
  repeat' split at e
  all_goals first | exact bls_k e | (cases e; done) | (cases e; decide)
theorem bg_k {p o k pl : Nat} {fs : List Nat} (e : bg T n mem nn NW p o fs = .inr (k, pl)) : 1 ≤ k ∧ k ≤ 4 := by
  unfold bg bi at e
  repeat' split at e
  all_goals first | exact bls_k e | exact bo_k e | (cases e; done) | (cases e; decide)
theorem en_k {p o k pl : Nat} {fs : List Nat} (e : en T n p o fs = .inr (k, pl)) : 1 ≤ k ∧ k ≤ 4 := by
  unfold en at e
  repeat' split at e
  all_goals first | (cases e; done) | (cases e; decide)
theorem stp_k {s : aSt} {k pl : Nat} (e : stp T n mem nn NW s = .inr (k, pl)) : 1 ≤ k ∧ k ≤ 4 := by
  unfold stp at e
  split at e
  · cases e
  · split at e
    · exact bg_k e
    · exact en_k e
theorem its_k {k pl : Nat} : ∀ {j : Nat} {s : aSt}, its T n mem nn NW j s = .inr (k, pl) → 1 ≤ k ∧ k ≤ 4 := by
  intro j
  induction j with
  | zero => intro s e; cases e
  | succ j ih =>
    intro s e
    have e : (match stp T n mem nn NW s with
      | .inl s' => its T n mem nn NW j s'
      | .inr e => .inr e) = .inr (k, pl) := e
    cases hs : stp T n mem nn NW s with
    | inl s' => rw [hs] at e; exact ih e
    | inr e2 => rw [hs] at e; cases e; exact stp_k hs
theorem RLq_k {p o k pl : Nat} (e : RLq T n mem nn NW p o (.inr (k, pl))) : 1 ≤ k ∧ k ≤ 4 := by
  rcases e with ⟨k', pl', e1, j, e2⟩ | ⟨p', o', e1, -⟩
  · cases e1
    exact its_k e2
  · cases e1
theorem Bdy_k {p o k pl : Nat} (e : Bdy T n mem nn NW p o (.inr (k, pl))) : 1 ≤ k ∧ k ≤ 4 := by
  unfold Bdy at e
  repeat' split at e
  all_goals first | (cases e; decide) | skip
  obtain ⟨q, h1, h2⟩ := e
  cases q with
  | inl s => cases h2
  | inr e2 =>
    obtain ⟨k', pl'⟩ := e2
    cases h2
    exact RLq_k h1
theorem Tx_k {k pl : Nat} : ∀ {j p o nn : Nat} {NW : Nat → Nat}, Tx T n mem j p o nn NW (.inr (k, pl)) → 1 ≤ k ∧ k ≤ 4 := by
  intro j
  induction j with
  | zero =>
    intro p o nn NW e
    have e := e.2
    unfold Fin_ at e
    split at e
    · cases e
      decide
    · obtain ⟨q, h1, ⟨k', pl', rfl, h2⟩ | ⟨p', o', rfl, h2⟩⟩ := e
      · cases h2
        exact RLq_k h1
      · split at h2
        · cases h2
        · cases h2
          decide
  | succ j ih =>
    intro p o nn NW e
    obtain ⟨-, b, h1, ⟨k', pl', rfl, h2⟩ | ⟨p', o', w, rfl, h2⟩⟩ := e
    · cases h2
      exact Bdy_k h1
    · exact ih h2
end XSU1
section XSU2
variable {tb : aT} {mid d : Nat} {mi : xm_M} {pc : Nat} {lv : List (Nat × Value)} {st : List Value} {h : xh_H} {Q : Option Value → xh_H → Nat → Nat → Prop}
/-- a call that answers nothing, by its contract and by what holds of its end -/
theorem xb_voidq {C : aC} {r : xr_R} {mj : xm_M} {As q : List Value} {σ : aN → Int} {P : aP} {Q1 : Option Value → xh_H → Prop} (hC : a_spec tb C) (hq : a_rq tb h) (hi0 : a_inv tb h) (hr : xC mid pc = some r) (hid : C.1 = r.2.2.1) (he : xa_c r st = some (mj, As, q)) (hd : C.2.1 ≤ d) (ha : a_st σ h.1.length C.2.2.1 As) (hp : a_fp C.2.2.2.2.2 h) (hret : C.2.2.2.1 = [(none, P)]) (hx : ∀ f, xq f r.2.2.1 mj 0 (lv_args 0 As) [] h Q1)
    (k : ∀ (h' : xh_H), Q1 none h' → a_inv tb h' → h'.1 = h.1 → a_fr C.2.2.2.2.1 h h' → a_rq tb h' → xt_B (d + 1) mid mi (pc + 3) lv q h' Q) : xt_B (d + 1) mid mi pc lv st h Q := by
  obtain ⟨e1, e2, e3, e4⟩ := xa_c_ok (d := d) (pc := pc) (lv := lv) (nL := mi.2.2.2.1) hq he
  obtain ⟨v, h', r1, p1, p2, ⟨t, ht, p3⟩, p4⟩ := hC d mj As h σ hd (by rw [hid]; exact e4) hi0 hq.1 ha hp
  rw [hret] at ht
  cases List.mem_singleton.mp ht
  obtain ⟨g1, g2⟩ := p3
  cases g1
  have r1' : xR none d r.2.2.1 mj (0, lv_args 0 As, [], h, 0, 0) (none, h', 0, 0) := by rw [← hid]; exact r1
  obtain ⟨v2, h2, c, s, r2, q2⟩ := k h' (xq_R lv_args_nd r1' hx) p1 p2 p4 (a_rq_of p1.1 (by rw [p2]; exact hq.1))
  have r3 := xR_call (v := none) (h' := h') (mc := 0) (ms := 0) hr e3 e2 e1 r1' r2
  exact ⟨v2, h2, c, s, r3, q2⟩
end XSU2
section XSU3
variable {T : Nat → Nat} {n mem : Nat}
set_option maxRecDepth 100000 in
set_option maxHeartbeats 8000000 in
/-- from the new Statute on -/
theorem s9_rest2 {d n m sc : Nat} {f : Int32} {h : xh_H} (hn : 72 ≤ h.1.length) (hi : a_inv a_tb h) (n72 : 72 ≤ n) (hpn : n % 2 = 0) (hnl : n < h.1.length) (hsn : h.1[n]? = some (0, 7)) (e8' : xg 0 h.2.1 0 8 = nI sc) (sc8 : sc < 8) (e37 : xg 0 h.2.1 3 7 = nI m) : xt_P (d + 49) xi_X9_statute xmi_X9_statute 91 [(0, .ref 0), (1, .int f)] [.ref n] h (fun v h' => hk ss_md h h' ∧ v = some (.int (nI m)) ∧ xg 0 h'.2.1 1 1 = xg 0 h.2.1 1 1 ∧ xg 0 h'.2.1 0 8 = nI (sc + 1) ∧ xg 0 h'.2.1 0 11 = xg 0 h.2.1 0 11) := by
  have hq := a_rq_of hi.1 hn
  have mb := a_flx (c := 0) (k := 9) (lo := 1) (hi := 12) hi.1 hn rfl rfl (by decide)
  refine xa_tn 104 [0, 2] [(0, .ref 0), (2, .ref n)] [.int (xg 0 h.2.1 0 9), .ref n, .ref 4] h [] 9 hq rfl trivial (fun _ => ?_)
  refine xp_void (C := aC_m_X3_fill) (P := []) (σ := fun _ => 0) as_m_X3_fill hq hi rfl rfl rfl (by show 2 ≤ d + 48; omega) ⟨a_av (t := 4) (by decide) hq.1, ⟨n, rfl, hnl, a_tg_e n72 hpn⟩, a_ai mb.1 mb.2, trivial⟩ a_fp0 rfl (fun h2 _ i2 l2 f2 q2 => ?_)
  have hk2 : hk ss_md h h2 := hk_c (hk_0 hi) i2 l2 f2 (by decide)
  have e8 : xg 0 h2.2.1 0 8 = nI sc := (fr_g f2 rfl rfl).trans e8'
  have e7 : xg 0 h2.2.1 3 7 = nI m := (fr_g f2 rfl rfl).trans e37
  refine xa_tn 116 [0, 2] [(0, .ref 0), (2, .ref n)] [.ref n, .int (xg 0 h2.2.1 0 8), .ref 13] h2 [] 7 q2 rfl trivial (fun _ => ?_)
  rw [e8]
  have hin : xe_in (nI sc) 8 = true := xin_n (by omega) (by omega)
  have ecl : (nI sc).toNatClampNeg = sc := nI_clamp (by omega)
  have ki := nI_toInt (n := sc + 1) (by omega)
  have s13 : h2.1[13]? = some (5, 8) := q2.2.1 13 _ rfl
  have sn2 : h2.1[n]? = some (0, 7) := by rw [l2]; exact hsn
  refine xp_step (pc1 := 117) (lv1 := [(0, .ref 0), (2, .ref n)]) (st1 := []) (h1 := xh_ur h2 13 sc (some n)) (r := _) rfl rfl (by simp [xe_2, xe_1, xp_rir, s13, sn2, hin, ecl]) ?_
  have i3 : a_inv a_tb (xh_ur h2 13 sc (some n)) := a_inv_ur (s := (5, 8)) (e := (3, 11, 0)) i2 s13 rfl (Or.inr rfl) ⟨by rw [l2]; exact hnl, a_tg_e n72 hpn⟩
  have hk3 : hk ss_md h (xh_ur h2 13 sc (some n)) := ⟨i3, l2, hk2.2.2⟩
  have e11 : xg 0 (xh_ur h2 13 sc (some n)).2.1 1 1 = xg 0 h.2.1 1 1 := fr_g f2 rfl rfl
  have e0b : xg 0 (xh_ur h2 13 sc (some n)).2.1 0 11 = xg 0 h.2.1 0 11 := fr_g f2 rfl rfl
  have e83 : xg 0 (xh_ur h2 13 sc (some n)).2.1 0 8 = nI sc := e8
  have e73 : xg 0 (xh_ur h2 13 sc (some n)).2.1 3 7 = nI m := e7
  generalize xh_ur h2 13 sc (some n) = h3 at hk3 e83 e11 e0b e73 ⊢
  refine xa_tn 134 [] [] [.int (xg 0 (xh_ui h3 0 8 ((xg 0 h3.2.1 0 8) + (Int32.ofInt 1))).2.1 3 7)] (xh_ui h3 0 8 ((xg 0 h3.2.1 0 8) + (Int32.ofInt 1))) [] 11 (hk_q hk3 hn) rfl trivial (fun _ => ?_)
  have e1 : nI sc + Int32.ofInt 1 = nI (sc + 1) := nI_1 sc
  rw [gx_o (by decide), e73, e83, e1]
  exact xp_ret rfl rfl rfl ⟨hk_ui (s := (0, 9)) (lo := 0) (hi := 8) hk3 hn rfl rfl (by omega) (by omega) rfl rfl, rfl, (gx_o (by decide)).trans e11, gx_s, (gx_k (by decide)).trans e0b⟩
set_option maxRecDepth 100000 in
set_option maxHeartbeats 8000000 in
/-- .. with its making -/
theorem s9_new2 {d m sc : Nat} {f : Int32} {h : xh_H} (hn : 72 ≤ h.1.length) (hp : h.1.length % 2 = 0) (hi : a_inv a_tb h) (e8 : xg 0 h.2.1 0 8 = nI sc) (sc8 : sc < 8) (e37 : xg 0 h.2.1 3 7 = nI m) (f9 : f.toInt ≤ 999) : xt_B (d + 49) xi_X9_statute xmi_X9_statute 83 [(0, .ref 0), (1, .int f)] [] h (fun v h' c s => hl ss_md h h' ∧ (v = some (.int (nI m)) ∧ xg 0 h'.2.1 1 1 = xg 0 h.2.1 1 1 ∧ xg 0 h'.2.1 0 8 = nI (sc + 1) ∧ xg 0 h'.2.1 0 11 = xg 0 h.2.1 0 11) ∧ c ≤ 2 ∧ s ≤ 66) := by
  have i1 := ns_inv hi hn hp f9
  have n1 : (ns_h h f).1.length = h.1.length + 2 := ns_n
  obtain ⟨v, h', r, q1, q2, q3, q4, q5⟩ := s9_rest2 (d := d) (n := h.1.length) (m := m) (sc := sc) (f := f) (h := ns_h h f) (by omega) i1 hn hp (by omega) ns_s0 (by rw [ns_i (by omega)]; exact e8) sc8 (by rw [ns_i (by omega)]; exact e37)
  refine ⟨v, h', 2, 66, ?_, ⟨q1.1, by rw [q1.2.1]; omega, by rw [q1.2.1]; omega, a_fr_t (fun c k hz _ => ns_i (by have := a_fz_lt hz; omega)) q1.2.2 (fun _ z => z)⟩, ⟨q2, q3.trans (ns_i (by omega)), q4, q5.trans (ns_i (by omega))⟩, Nat.le_refl _, Nat.le_refl _⟩
  refine xR_step (o1 := (86, [(0, .ref 0), (1, .int f)], [.ref h.1.length], xh_nw h (0, 7), 1, 2)) rfl rfl rfl ?_
  refine xR_step (o1 := (87, [(0, .ref 0), (1, .int f)], [.ref h.1.length, .ref h.1.length], xh_nw h (0, 7), 1, 2)) rfl rfl rfl ?_
  refine xR_step (o1 := (88, [(0, .ref 0), (1, .int f)], [.int f, .ref h.1.length, .ref h.1.length], xh_nw h (0, 7), 1, 2)) rfl rfl rfl ?_
  refine xR_call (d := d + 48) (v := none) (h' := ns_h h f) (mc := 1) (ms := 64) (As := [.ref h.1.length, .int f]) (q := [.ref h.1.length]) (mj := xmi_X7_init) rfl rfl rfl rfl (ns_init (d := d + 47)) ?_
  exact xR_ad r 2 66
/-- a statute is refused without its text being read -/
def sref (sc td : Nat) (f : Int32) : Prop := 8 ≤ sc ∨ f.toInt < (td : Int) ∨ 999 < f.toInt
/-- what the class's statute answers -/
def s9_A (T : Nat → Nat) (n mem sc td : Nat) (f fk : Int32) (v : Option Value) (h' : xh_H) : Prop := (sref sc td f → v = some (.int (-1000)) ∧ xg 0 h'.2.1 0 8 = nI sc ∧ xg 0 h'.2.1 0 11 = fk) ∧ (¬ sref sc td f → ∃ j r, Tx T n mem j 0 0 0 (nmW T (fun _ => (0, 0))) r ∧ (∀ m, r = .inl m → v = some (.int (nI m)) ∧ m ≤ 16 ∧ xg 0 h'.2.1 0 8 = nI (sc + 1) ∧ xg 0 h'.2.1 0 11 = nI 0) ∧ ∀ k pl, r = .inr (k, pl) → v = some (.int (Int32.ofInt (-1) - nI pl)) ∧ xg 0 h'.2.1 0 8 = nI sc ∧ xg 0 h'.2.1 0 11 = nI k)
set_option maxRecDepth 100000 in
set_option maxHeartbeats 8000000 in
/-- X9.statute -/
theorem s9t_run {d sc td : Nat} {f : Int32} {h : xh_H} (hn : 72 ≤ h.1.length) (hp : h.1.length % 2 = 0) (hi : a_inv a_tb h) (hc : ct h T n) (e9 : xg 0 h.2.1 0 9 = nI mem) (m12 : mem ≤ 12) (e8 : xg 0 h.2.1 0 8 = nI sc) (sc8 : sc ≤ 8) (e10 : xg 0 h.2.1 0 10 = nI td) (td9 : td ≤ 999) : xt_B (d + 49) xi_X9_statute xmi_X9_statute 0 [(0, .ref 0), (1, .int f)] [] h (fun v h' c s => hl ss_md h h' ∧ (xg 0 h'.2.1 1 1 = 0 ∧ s9_A T n mem sc td f (xg 0 h.2.1 0 11) v h') ∧ c ≤ 2 ∧ s ≤ 66) := by
  have hq := a_rq_of hi.1 hn
  have mb := a_flx (c := 0) (k := 9) (lo := 1) (hi := 12) hi.1 hn rfl rfl (by decide)
  have tdi := nI_toInt (n := td) (by omega)
  have bad : sref sc td f → xt_B (d + 49) xi_X9_statute xmi_X9_statute 24 [(0, .ref 0), (1, .int f)] [] h (fun v h' c s => hl ss_md h h' ∧ (xg 0 h'.2.1 1 1 = 0 ∧ s9_A T n mem sc td f (xg 0 h.2.1 0 11) v h') ∧ c ≤ 2 ∧ s ≤ 66) := by
    intro hs
    refine xb_P (Q1 := fun v h' => hk ss_md h h' ∧ xg 0 h'.2.1 1 1 = 0 ∧ s9_A T n mem sc td f (xg 0 h.2.1 0 11) v h') ?_ (fun v h' z => ⟨hl_hk z.1 hn hp, z.2, by decide, by decide⟩)
    refine xa_tn 35 [] [] [.int (-1000)] (xh_ui h 1 1 (Int32.ofInt 0)) [] 7 hq rfl trivial (fun _ => ?_)
    exact xp_ret rfl rfl rfl ⟨hk_ui (s := (0, 8)) (lo := 0) (hi := 640) (hk_0 hi) hn rfl rfl (by decide) (by decide) rfl rfl, gx_s, fun _ => ⟨rfl, (gx_o (by decide)).trans e8, gx_o (by decide)⟩, fun z => absurd hs z⟩
  by_cases k8 : 8 ≤ sc
  · exact xb_tn 24 [0, 1] [(0, .ref 0), (1, .int f)] [] h [true] 6 hq rfl ⟨(show xe_c .ge (xg 0 h.2.1 0 8) 8 = true by rw [e8]; exact nge_t (b := 8) (by omega) (by decide) k8), trivial⟩ (fun _ => bad (Or.inl k8))
  have c1 : xe_c .ge (xg 0 h.2.1 0 8) 8 = false := by rw [e8]; exact nge_f (b := 8) (by omega) (by decide) (by omega)
  cases c2 : xe_c .lt f (xg 0 h.2.1 0 10) with
  | true =>
    have b2 : f.toInt < (xg 0 h.2.1 0 10).toInt := a_ce c2
    rw [e10, tdi] at b2
    exact xb_tn 24 [0, 1] [(0, .ref 0), (1, .int f)] [] h [false, true] 10 hq rfl ⟨c1, c2, trivial⟩ (fun _ => bad (Or.inr (Or.inl b2)))
  | false =>
    have b2 : (xg 0 h.2.1 0 10).toInt ≤ f.toInt := a_ce (a_neg_ok c2)
    rw [e10, tdi] at b2
    cases c3 : xe_c .le f 999 with
    | false =>
      have b3 : (999 : Int) < f.toInt := a_ce (a_neg_ok c3)
      exact xb_tn 24 [0, 1] [(0, .ref 0), (1, .int f)] [] h [false, false, false] 13 hq rfl ⟨c1, c2, c3, trivial⟩ (fun _ => bad (Or.inr (Or.inr b3)))
    | true =>
      have f9 : f.toInt ≤ (999 : Int) := a_ce c3
      have nsr : ¬ sref sc td f := by
        rintro (z | z | z) <;> omega
      refine xb_tn 44 [0, 1] [(0, .ref 0), (1, .int f)] [.int (xg 0 h.2.1 0 9), .ref 3] h [false, false, true] 17 hq rfl ⟨c1, c2, c3, trivial⟩ (fun _ => ?_)
      refine xb_voidq (C := aC_m_X4_read) (P := []) (σ := fun _ => 0) as_m_X4_read hq hi rfl rfl rfl (by show 48 ≤ d + 48; omega) ⟨a_av (t := 3) (by decide) hq.1, a_ai mb.1 mb.2, trivial⟩ a_fp0 rfl (fun f => by rw [e9]; exact read_q (f := f) hc m12 hq) (fun h1 hx i1 l1 f1 q1 => ?_)
      obtain ⟨-, gx, j, r, hX, hO⟩ := hx
      have hk1 : hk ss_md h h1 := hk_c (hk_0 hi) i1 l1 f1 (by decide)
      have hn1 := hk_n hk1 hn
      have ka : hk ss_md h (xh_ui h1 1 1 (Int32.ofInt 0)) := hk_ui (s := (0, 8)) (lo := 0) (hi := 640) hk1 hn rfl rfl (by decide) (by decide) rfl rfl
      have b38 := a_flx (c := 3) (k := 8) (lo := 0) (hi := 4) ka.1.1 (hk_n ka hn) rfl rfl (by decide)
      have kb : hk ss_md h (xh_ui (xh_ui h1 1 1 (Int32.ofInt 0)) 0 11 (xg 0 (xh_ui h1 1 1 (Int32.ofInt 0)).2.1 3 8)) := hk_ui (s := (0, 9)) (lo := 0) (hi := 4) ka hn rfl rfl b38.1 b38.2 rfl rfl
      have d38 : xg 0 (xh_ui h1 1 1 (Int32.ofInt 0)).2.1 3 8 = xg 0 h1.2.1 3 8 := gx_o (by decide)
      have d8 : xg 0 (xh_ui (xh_ui h1 1 1 (Int32.ofInt 0)) 0 11 (xg 0 (xh_ui h1 1 1 (Int32.ofInt 0)).2.1 3 8)).2.1 0 8 = nI sc := (gx_k (by decide)).trans ((gx_o (by decide)).trans ((fx_i gx rfl).trans e8))
      have d11 : xg 0 (xh_ui (xh_ui h1 1 1 (Int32.ofInt 0)) 0 11 (xg 0 (xh_ui h1 1 1 (Int32.ofInt 0)).2.1 3 8)).2.1 0 11 = xg 0 h1.2.1 3 8 := gx_s.trans d38
      have d1 : xg 0 (xh_ui (xh_ui h1 1 1 (Int32.ofInt 0)) 0 11 (xg 0 (xh_ui h1 1 1 (Int32.ofInt 0)).2.1 3 8)).2.1 1 1 = 0 := (gx_o (by decide)).trans gx_s
      have d7 : xg 0 (xh_ui (xh_ui h1 1 1 (Int32.ofInt 0)) 0 11 (xg 0 (xh_ui h1 1 1 (Int32.ofInt 0)).2.1 3 8)).2.1 3 7 = xg 0 h1.2.1 3 7 := (gx_o (by decide)).trans (gx_o (by decide))
      have d9 : xg 0 (xh_ui (xh_ui h1 1 1 (Int32.ofInt 0)) 0 11 (xg 0 (xh_ui h1 1 1 (Int32.ofInt 0)).2.1 3 8)).2.1 3 9 = xg 0 h1.2.1 3 9 := (gx_o (by decide)).trans (gx_o (by decide))
      cases r with
      | inr e =>
        obtain ⟨k, pl⟩ := e
        obtain ⟨o1, o2⟩ := hO.2 _ _ rfl
        obtain ⟨k1, k4⟩ := Tx_k hX
        refine xb_P (Q1 := fun v h' => hk ss_md h h' ∧ xg 0 h'.2.1 1 1 = 0 ∧ s9_A T n mem sc td f (xg 0 h.2.1 0 11) v h') ?_ (fun v h' z => ⟨hl_hk z.1 hn hp, z.2, by decide, by decide⟩)
        refine xa_tn 82 [] [] [.int ((Int32.ofInt (-1)) - (xg 0 (xh_ui (xh_ui h1 1 1 (Int32.ofInt 0)) 0 11 (xg 0 (xh_ui h1 1 1 (Int32.ofInt 0)).2.1 3 8)).2.1 3 9))] (xh_ui (xh_ui h1 1 1 (Int32.ofInt 0)) 0 11 (xg 0 (xh_ui h1 1 1 (Int32.ofInt 0)).2.1 3 8)) [false] 19 q1 rfl ⟨(show xe_c .eq (xg 0 (xh_ui (xh_ui h1 1 1 (Int32.ofInt 0)) 0 11 (xg 0 (xh_ui h1 1 1 (Int32.ofInt 0)).2.1 3 8)).2.1 0 11) 0 = false by rw [d11, o1]; exact xeq_f (by rw [nI_toInt (by omega)]; show ((k : Nat) : Int) ≠ 0; omega)), trivial⟩ (fun _ => ?_)
        rw [d9, o2]
        exact xp_ret rfl rfl rfl ⟨kb, d1, fun z => absurd z nsr, fun _ => ⟨j, _, hX, fun _ e => (by cases e), fun _ _ e => by cases e; exact ⟨rfl, d8, d11.trans o1⟩⟩⟩
      | inl m =>
        obtain ⟨o1, o2, o3⟩ := hO.1 _ rfl
        refine xb_tn 83 [0, 1] [(0, .ref 0), (1, .int f)] [] (xh_ui (xh_ui h1 1 1 (Int32.ofInt 0)) 0 11 (xg 0 (xh_ui h1 1 1 (Int32.ofInt 0)).2.1 3 8)) [true] 14 q1 rfl ⟨(show xe_c .eq (xg 0 (xh_ui (xh_ui h1 1 1 (Int32.ofInt 0)) 0 11 (xg 0 (xh_ui h1 1 1 (Int32.ofInt 0)).2.1 3 8)).2.1 0 11) 0 = true by rw [d11, o1]; rfl), trivial⟩ (fun _ => ?_)
        generalize xh_ui (xh_ui h1 1 1 (Int32.ofInt 0)) 0 11 (xg 0 (xh_ui h1 1 1 (Int32.ofInt 0)).2.1 3 8) = h2 at kb d8 d11 d1 d7 d9 ⊢
        obtain ⟨v, h', c, s, r, z1, ⟨z2, z3, z4, z5⟩, z6⟩ := s9_new2 (d := d) (m := m) (sc := sc) (f := f) (hk_n kb hn) (by rw [kb.2.1]; exact hp) kb.1 d8 (by omega) (d7.trans o2) f9
        refine ⟨v, h', c, s, r, ⟨z1.1, z1.2.1, z1.2.2.1, a_fr_t kb.2.2 z1.2.2.2 (fun _ z => z)⟩, ⟨z3.trans d1, fun z => absurd z nsr, fun _ => ⟨j, _, hX, fun _ e => ?_, fun _ _ e => (by cases e)⟩⟩, z6⟩
        cases e
        exact ⟨z2, o3, z4, z5.trans (d11.trans o1)⟩
end XSU3
end
