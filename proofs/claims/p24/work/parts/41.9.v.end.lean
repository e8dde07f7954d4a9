section
section XDE
variable {T : Nat → Nat} {n mem nn : Nat} {NW : Nat → Nat}
def E6 (t c k : Nat) : Bool := Nat.beq c 46 && Nat.ble (4096 * t) k
def E2 (t c k : Nat) : Bool := Nat.beq c 42 && Nat.ble (4096 * t) k
def E1 (t c k : Nat) : Bool := (Nat.beq c 41 || Nat.beq c 42) && Nat.ble (4096 * t) k
def E5 (c _k : Nat) : Bool := Nat.beq c 45
theorem ble_t {t k : Nat} (h : 4096 * t ≤ k) : Nat.ble (4096 * t) k = true := Nat.ble_eq.mpr h
theorem ble_n {t k : Nat} (h : k < 4096 * t) : Nat.ble (4096 * t) k = false := by rw [Bool.eq_false_iff]; intro z; have := Nat.ble_eq.mp z; omega
theorem E6t {t k : Nat} (h : 4096 * t ≤ k) : E6 t 46 k = true := ble_t h
theorem E2t {t k : Nat} (h : 4096 * t ≤ k) : E2 t 42 k = true := ble_t h
theorem E1t {t k : Nat} (h : 4096 * t ≤ k) : E1 t 41 k = true := ble_t h
theorem E1u {t k : Nat} (h : 4096 * t ≤ k) : E1 t 42 k = true := ble_t h
section
variable {h h' : xh_H} {sv t : Nat} {fr : List Nat} {r : List vF}
theorem dE6 (s4 : sv < 4096) (ht : fr.length = t) (d : dfr h sv fr r) (g : fx (E6 t) fN h h') : dfr h' sv fr r := dfr_5 s4 (fun _ _ => fx_i g rfl) (fun _ _ => fx_i g rfl) (fun _ hk' => fx_i g (ble_n (by omega))) (fun _ _ => fx_i g rfl) (fun _ _ => fx_i g rfl) d
theorem dE2 (s4 : sv < 4096) (ht : fr.length = t) (d : dfr h sv fr r) (g : fx (E2 t) fN h h') : dfr h' sv fr r := dfr_5 s4 (fun _ _ => fx_i g rfl) (fun _ hk' => fx_i g (ble_n (by omega))) (fun _ _ => fx_i g rfl) (fun _ _ => fx_i g rfl) (fun _ _ => fx_i g rfl) d
theorem dE1 (s4 : sv < 4096) (ht : fr.length = t) (d : dfr h sv fr r) (g : fx (E1 t) fN h h') : dfr h' sv fr r := dfr_5 s4 (fun _ hk' => fx_i g (ble_n (by omega))) (fun _ hk' => fx_i g (ble_n (by omega))) (fun _ _ => fx_i g rfl) (fun _ _ => fx_i g rfl) (fun _ _ => fx_i g rfl) d
theorem dE5 (s4 : sv < 4096) (d : dfr h sv fr r) (g : fx E5 fN h h') : dfr h' sv fr r := dfr_5 s4 (fun _ _ => fx_i g rfl) (fun _ _ => fx_i g rfl) (fun _ _ => fx_i g rfl) (fun _ _ => fx_i g rfl) (fun _ _ => fx_i g rfl) d
theorem dfr_48t {x : Int32} (s4 : sv < 4096) (ht : fr.length = t) (d : dfr h sv fr r) : dfr (xh_ui h 48 t x) sv fr r := dfr_5 s4 (fun _ _ => gx_o (by decide)) (fun _ _ => gx_o (by decide)) (fun _ _ => gx_o (by decide)) (fun _ hk' => gx_k (by omega)) (fun _ _ => gx_o (by decide)) d
end
section
variable {a b : Bool} {x y w : Int32}
theorem b_n1 (h : xe_c .eq (bl a) 0 = true) : x = (if a = true then x + w else x) := by cases a with
  | false => rfl
  | true => exact absurd h (by decide)
theorem b_n2 (h : xe_c .eq (bl a) 0 = false) : x + w = (if a = true then x + w else x) := by cases a with
  | false => exact absurd h (by decide)
  | true => rfl
theorem xge_n {a b : Int32} : xe_c .ge a b = !(xe_c .lt a b) := by
  show decide (b ≤ a) = !decide (a < b)
  have h : (b ≤ a) ↔ ¬ (a < b) := Int32.not_lt.symm
  by_cases z : a < b
  · rw [decide_eq_true z, decide_eq_false (fun y => h.mp y z)]; rfl
  · rw [decide_eq_false z, decide_eq_true (h.mpr z)]; rfl
theorem b_g1 (h : xe_c .lt x y = true) : Int32.ofInt 0 = bl (xe_c .ge x y) := by rw [show xe_c .ge x y = !(xe_c .lt x y) from xge_n, h]; rfl
theorem b_g2 (h : xe_c .lt x y = false) : Int32.ofInt 1 = bl (xe_c .ge x y) := by rw [show xe_c .ge x y = !(xe_c .lt x y) from xge_n, h]; rfl
theorem b_a1 (h : xe_c .eq (bl a) 0 = true) : Int32.ofInt 0 = bl (a && b) := by cases a with
  | false => rfl
  | true => exact absurd h (by decide)
theorem b_a2 (h : xe_c .eq (bl a) 0 = false) (h' : xe_c .eq (bl b) 0 = true) : Int32.ofInt 0 = bl (a && b) := by cases b with
  | false => cases a <;> rfl
  | true => exact absurd h' (by decide)
theorem b_a3 (h : xe_c .eq (bl a) 0 = false) (h' : xe_c .eq (bl b) 0 = false) : Int32.ofInt 1 = bl (a && b) := by cases a with
  | false => exact absurd h (by decide)
  | true => cases b with
    | false => exact absurd h' (by decide)
    | true => rfl
theorem b_o1 (h : xe_c .ne (bl a) 0 = true) : Int32.ofInt 1 = bl (a || b) := by cases a with
  | false => exact absurd h (by decide)
  | true => rfl
theorem b_o2 (h : xe_c .ne (bl a) 0 = false) (h' : xe_c .eq (bl b) 0 = true) : Int32.ofInt 0 = bl (a || b) := by cases a with
  | true => exact absurd h (by decide)
  | false => cases b with
    | true => exact absurd h' (by decide)
    | false => rfl
theorem b_o3 (h : xe_c .ne (bl a) 0 = false) (h' : xe_c .eq (bl b) 0 = false) : Int32.ofInt 1 = bl (a || b) := by cases a with
  | true => exact absurd h (by decide)
  | false => cases b with
    | true => rfl
    | false => exact absurd h' (by decide)
end
set_option maxRecDepth 100000 in
set_option maxHeartbeats 4000000 in
theorem eld_24 {p o aw sv t : Nat} {fs : List Nat} {h0 hb : xh_H} {one : Bool} {su w : Int32} {Q : Option Value → xh_H → Prop} (s4 : sv < 4096) (et : fs.length - 1 = t) (t12 : t ≤ 12) (b45 : xg 0 hb.2.1 45 sv = bl one) (b48 : xg 0 hb.2.1 48 t = w) (K : ∀ (f : Nat) (x : Int32) (h : xh_H), a_rq a_tb h → GI h0 h T n mem nn NW p o fs aw → fx (E6 t) fN hb h → xg 0 h.2.1 46 (4096 * t + sv) = (if one = true then su + w else su) → xq f xi_X10_end_ xmi_X10_end_ 66 [(0, .ref 39), (1, .int (nI (4096 * t))), (2, .int x)] [] h Q) : ∀ (f i : Nat) (h : xh_H), a_rq a_tb h → GI h0 h T n mem nn NW p o fs aw → fx (E6 t) fN hb h → i ≤ 4096 → xg 0 h.2.1 46 (4096 * t + sv) = (if sv < i then (if one = true then su + w else su) else su) → xq f xi_X10_end_ xmi_X10_end_ 24 [(0, .ref 39), (1, .int (nI (4096 * t))), (2, .int (nI i))] [] h Q := by
  intro f
  induction f with
  | zero => intros; exact xq_0
  | succ f ih =>
    intro i h hq gi ge i6 w46
    have e28 : xg 0 h.2.1 39 28 = nI t := by rw [← et]; exact gi.2.1.2.2.2.2.2.2.2.1
    cases c1 : xe_c .ge (nI i) 4096 with
    | true =>
      have z1 : i ≥ 4096 := nq_get (a := i) (b := 4096) (by omega) (by omega) c1
      refine xq_m 66 [0, 1, 2] [(0, .ref 39), (1, .int (nI (4096 * t))), (2, .int (nI i))] [] h [true] 5 hq rfl ⟨c1, trivial⟩ (fun hq => ?_)
      exact K f _ _ hq gi ge (lp_1 w46 (by omega))
    | false =>
      have z1 : i < 4096 := nq_gef (a := i) (b := 4096) (by omega) (by omega) c1
      cases c2 : xe_c .eq (xg 0 h.2.1 45 i) 0 with
      | true =>
        refine xq_m 24 [0, 1, 2] [(0, .ref 39), (1, .int (nI (4096 * t))), (2, .int ((nI i) + Int32.ofInt 1))] [] h [false, true] 12 hq rfl ⟨c1, (show xe_c .eq (xg 0 h.2.1 45 ((nI i).toNatClampNeg)) 0 = true by rw [show (xg 0 h.2.1 45 ((nI i).toNatClampNeg)) = xg 0 h.2.1 45 i from (by rw [show ((nI i).toNatClampNeg) = i from nI_clamp (by omega)])]; exact c2), trivial⟩ (fun hq => ?_)
        rw [show ((nI i) + Int32.ofInt 1) = nI (i + 1) from nI_1 _]
        exact ih (i + 1) _ hq (GI_f gi (fx_0)) (ge) (by omega) (lp_n w46 (fun e => by have c := c2; rw [e, show xg 0 h.2.1 45 sv = bl one from (fx_i ge rfl).trans b45] at c; exact b_n1 c))
      | false =>
        refine xq_m 24 [0, 1, 2] [(0, .ref 39), (1, .int (nI (4096 * t))), (2, .int ((nI i) + Int32.ofInt 1))] [] (xh_ui h 46 (((nI (4096 * t)) + (nI i)).toNatClampNeg) ((xg 0 h.2.1 46 (((nI (4096 * t)) + (nI i)).toNatClampNeg)) + (xg 0 h.2.1 48 ((xg 0 h.2.1 39 28).toNatClampNeg)))) [false, false] 26 hq rfl ⟨c1, (show xe_c .eq (xg 0 h.2.1 45 ((nI i).toNatClampNeg)) 0 = false by rw [show (xg 0 h.2.1 45 ((nI i).toNatClampNeg)) = xg 0 h.2.1 45 i from (by rw [show ((nI i).toNatClampNeg) = i from nI_clamp (by omega)])]; exact c2), trivial⟩ (fun _ => ?_)
        rw [show (xg 0 h.2.1 46 (((nI (4096 * t)) + (nI i)).toNatClampNeg)) = xg 0 h.2.1 46 (4096 * t + i) from (by rw [show ((nI (4096 * t)) + (nI i)) = nI (4096 * t + i) from nI_add _ _, show ((nI (4096 * t + i)).toNatClampNeg) = (4096 * t + i) from nI_clamp (by omega)])]
        rw [show (xg 0 h.2.1 48 ((xg 0 h.2.1 39 28).toNatClampNeg)) = xg 0 h.2.1 48 t from (by rw [show (xg 0 h.2.1 39 28) = (nI t) from e28, show ((nI t).toNatClampNeg) = t from nI_clamp (by omega)])]
        rw [show ((nI (4096 * t)) + (nI i)) = nI (4096 * t + i) from nI_add _ _]
        rw [show ((nI (4096 * t + i)).toNatClampNeg) = (4096 * t + i) from nI_clamp (by omega)]
        rw [show ((nI i) + Int32.ofInt 1) = nI (i + 1) from nI_1 _]
        have hq : a_rq a_tb (xh_ui h 46 (4096 * t + i) ((xg 0 h.2.1 46 (4096 * t + i)) + (xg 0 h.2.1 48 t))) := a_rq_ui hq
        exact ih (i + 1) _ hq (GI_f gi (fx_ui (fx_0) rfl)) (fx_ui (ge) (E6t (by omega))) (by omega) (lp_w (w46) (fun e => by have c := c2; rw [e, show xg 0 h.2.1 45 sv = bl one from (fx_i ge rfl).trans b45] at c; rw [e, w46, if_neg (by omega), show xg 0 h.2.1 48 t = w from (fx_i ge rfl).trans b48]; exact b_n2 c))
set_option maxRecDepth 100000 in
set_option maxHeartbeats 4000000 in
theorem eld_94 {p o aw sv t : Nat} {fs : List Nat} {h0 hb : xh_H} {one : Bool} {nd S : Int32} {Q : Option Value → xh_H → Prop} (s4 : sv < 4096) (et : fs.length - 1 = t) (t12 : t ≤ 12) (b46 : xg 0 hb.2.1 46 (4096 * t + sv) = S) (b49 : xg 0 hb.2.1 49 t = nd) (K : ∀ (f : Nat) (x : Int32) (h : xh_H), a_rq a_tb h → GI h0 h T n mem nn NW p o fs aw → fx E5 fN hb h → xg 0 h.2.1 45 sv = bl (xe_c .ge S nd) → xq f xi_X10_end_ xmi_X10_end_ 138 [(0, .ref 39), (1, .int (nI (4096 * t))), (2, .int x)] [] h Q) : ∀ (f i : Nat) (h : xh_H), a_rq a_tb h → GI h0 h T n mem nn NW p o fs aw → fx E5 fN hb h → i ≤ 4096 → xg 0 h.2.1 45 sv = (if sv < i then bl (xe_c .ge S nd) else bl one) → xq f xi_X10_end_ xmi_X10_end_ 94 [(0, .ref 39), (1, .int (nI (4096 * t))), (2, .int (nI i))] [] h Q := by
  intro f
  induction f with
  | zero => intros; exact xq_0
  | succ f ih =>
    intro i h hq gi ge i6 w45
    have e28 : xg 0 h.2.1 39 28 = nI t := by rw [← et]; exact gi.2.1.2.2.2.2.2.2.2.1
    cases c1 : xe_c .ge (nI i) 4096 with
    | true =>
      have z1 : i ≥ 4096 := nq_get (a := i) (b := 4096) (by omega) (by omega) c1
      refine xq_m 138 [0, 1, 2] [(0, .ref 39), (1, .int (nI (4096 * t))), (2, .int (nI i))] [] h [true] 5 hq rfl ⟨c1, trivial⟩ (fun hq => ?_)
      exact K f _ _ hq gi ge (lp_1 w45 (by omega))
    | false =>
      have z1 : i < 4096 := nq_gef (a := i) (b := 4096) (by omega) (by omega) c1
      cases c2 : xe_c .lt (xg 0 h.2.1 46 (4096 * t + i)) (xg 0 h.2.1 49 t) with
      | true =>
        refine xq_m 94 [0, 1, 2] [(0, .ref 39), (1, .int (nI (4096 * t))), (2, .int ((nI i) + Int32.ofInt 1))] [] (xh_ui h 45 ((nI i).toNatClampNeg) (vp_nar .boolean (Int32.ofInt 0))) [false, true] 24 hq rfl ⟨c1, (show xe_c .lt (xg 0 h.2.1 46 (((nI (4096 * t)) + (nI i)).toNatClampNeg)) (xg 0 h.2.1 49 ((xg 0 h.2.1 39 28).toNatClampNeg)) = true by rw [show (xg 0 h.2.1 46 (((nI (4096 * t)) + (nI i)).toNatClampNeg)) = xg 0 h.2.1 46 (4096 * t + i) from (by rw [show ((nI (4096 * t)) + (nI i)) = nI (4096 * t + i) from nI_add _ _, show ((nI (4096 * t + i)).toNatClampNeg) = (4096 * t + i) from nI_clamp (by omega)]), show (xg 0 h.2.1 49 ((xg 0 h.2.1 39 28).toNatClampNeg)) = xg 0 h.2.1 49 t from (by rw [show (xg 0 h.2.1 39 28) = (nI t) from e28, show ((nI t).toNatClampNeg) = t from nI_clamp (by omega)])]; exact c2), trivial⟩ (fun _ => ?_)
        rw [show (vp_nar .boolean (Int32.ofInt 0)) = Int32.ofInt 0 from rfl]
        rw [show ((nI i).toNatClampNeg) = i from nI_clamp (by omega)]
        rw [show ((nI i) + Int32.ofInt 1) = nI (i + 1) from nI_1 _]
        have hq : a_rq a_tb (xh_ui h 45 i (Int32.ofInt 0)) := a_rq_ui hq
        exact ih (i + 1) _ hq (GI_f gi (fx_ui (fx_0) rfl)) (fx_ui (ge) rfl) (by omega) (lp_w0 (w45) (fun e => by have c := c2; rw [e, show xg 0 h.2.1 46 (4096 * t + sv) = S from (fx_i ge rfl).trans b46, show xg 0 h.2.1 49 t = nd from (fx_i ge rfl).trans b49] at c; exact b_g1 c))
      | false =>
        refine xq_m 94 [0, 1, 2] [(0, .ref 39), (1, .int (nI (4096 * t))), (2, .int ((nI i) + Int32.ofInt 1))] [] (xh_ui h 45 ((nI i).toNatClampNeg) (vp_nar .boolean (Int32.ofInt 1))) [false, false] 25 hq rfl ⟨c1, (show xe_c .lt (xg 0 h.2.1 46 (((nI (4096 * t)) + (nI i)).toNatClampNeg)) (xg 0 h.2.1 49 ((xg 0 h.2.1 39 28).toNatClampNeg)) = false by rw [show (xg 0 h.2.1 46 (((nI (4096 * t)) + (nI i)).toNatClampNeg)) = xg 0 h.2.1 46 (4096 * t + i) from (by rw [show ((nI (4096 * t)) + (nI i)) = nI (4096 * t + i) from nI_add _ _, show ((nI (4096 * t + i)).toNatClampNeg) = (4096 * t + i) from nI_clamp (by omega)]), show (xg 0 h.2.1 49 ((xg 0 h.2.1 39 28).toNatClampNeg)) = xg 0 h.2.1 49 t from (by rw [show (xg 0 h.2.1 39 28) = (nI t) from e28, show ((nI t).toNatClampNeg) = t from nI_clamp (by omega)])]; exact c2), trivial⟩ (fun _ => ?_)
        rw [show (vp_nar .boolean (Int32.ofInt 1)) = Int32.ofInt 1 from rfl]
        rw [show ((nI i).toNatClampNeg) = i from nI_clamp (by omega)]
        rw [show ((nI i) + Int32.ofInt 1) = nI (i + 1) from nI_1 _]
        have hq : a_rq a_tb (xh_ui h 45 i (Int32.ofInt 1)) := a_rq_ui hq
        exact ih (i + 1) _ hq (GI_f gi (fx_ui (fx_0) rfl)) (fx_ui (ge) rfl) (by omega) (lp_w0 (w45) (fun e => by have c := c2; rw [e, show xg 0 h.2.1 46 (4096 * t + sv) = S from (fx_i ge rfl).trans b46, show xg 0 h.2.1 49 t = nd from (fx_i ge rfl).trans b49] at c; exact b_g2 c))
set_option maxRecDepth 100000 in
set_option maxHeartbeats 4000000 in
theorem eld_156 {p o aw sv t : Nat} {fs : List Nat} {h0 hb : xh_H} {one av : Bool} {Q : Option Value → xh_H → Prop} (s4 : sv < 4096) (et : fs.length - 1 = t) (t12 : t ≤ 12) (b45 : xg 0 hb.2.1 45 sv = bl one) (K : ∀ (f : Nat) (x : Int32) (h : xh_H), a_rq a_tb h → GI h0 h T n mem nn NW p o fs aw → fx (E2 t) fN hb h → xg 0 h.2.1 42 (4096 * t + sv) = bl (av && one) → xq f xi_X10_end_ xmi_X10_end_ 202 [(0, .ref 39), (1, .int (nI (4096 * t))), (2, .int x)] [] h Q) : ∀ (f i : Nat) (h : xh_H), a_rq a_tb h → GI h0 h T n mem nn NW p o fs aw → fx (E2 t) fN hb h → i ≤ 4096 → xg 0 h.2.1 42 (4096 * t + sv) = (if sv < i then bl (av && one) else bl av) → xq f xi_X10_end_ xmi_X10_end_ 156 [(0, .ref 39), (1, .int (nI (4096 * t))), (2, .int (nI i))] [] h Q := by
  intro f
  induction f with
  | zero => intros; exact xq_0
  | succ f ih =>
    intro i h hq gi ge i6 w42
    have e28 : xg 0 h.2.1 39 28 = nI t := by rw [← et]; exact gi.2.1.2.2.2.2.2.2.2.1
    cases c1 : xe_c .ge (nI i) 4096 with
    | true =>
      have z1 : i ≥ 4096 := nq_get (a := i) (b := 4096) (by omega) (by omega) c1
      refine xq_m 202 [0, 1, 2] [(0, .ref 39), (1, .int (nI (4096 * t))), (2, .int (nI i))] [] h [true] 5 hq rfl ⟨c1, trivial⟩ (fun hq => ?_)
      exact K f _ _ hq gi ge (lp_1 w42 (by omega))
    | false =>
      have z1 : i < 4096 := nq_gef (a := i) (b := 4096) (by omega) (by omega) c1
      cases c2 : xe_c .eq (xg 0 h.2.1 42 (4096 * t + i)) 0 with
      | true =>
        refine xq_m 156 [0, 1, 2] [(0, .ref 39), (1, .int (nI (4096 * t))), (2, .int ((nI i) + Int32.ofInt 1))] [] (xh_ui h 42 (((nI (4096 * t)) + (nI i)).toNatClampNeg) (vp_nar .boolean (Int32.ofInt 0))) [false, true] 21 hq rfl ⟨c1, (show xe_c .eq (xg 0 h.2.1 42 (((nI (4096 * t)) + (nI i)).toNatClampNeg)) 0 = true by rw [show (xg 0 h.2.1 42 (((nI (4096 * t)) + (nI i)).toNatClampNeg)) = xg 0 h.2.1 42 (4096 * t + i) from (by rw [show ((nI (4096 * t)) + (nI i)) = nI (4096 * t + i) from nI_add _ _, show ((nI (4096 * t + i)).toNatClampNeg) = (4096 * t + i) from nI_clamp (by omega)])]; exact c2), trivial⟩ (fun _ => ?_)
        rw [show ((nI (4096 * t)) + (nI i)) = nI (4096 * t + i) from nI_add _ _]
        rw [show (vp_nar .boolean (Int32.ofInt 0)) = Int32.ofInt 0 from rfl]
        rw [show ((nI (4096 * t + i)).toNatClampNeg) = (4096 * t + i) from nI_clamp (by omega)]
        rw [show ((nI i) + Int32.ofInt 1) = nI (i + 1) from nI_1 _]
        have hq : a_rq a_tb (xh_ui h 42 (4096 * t + i) (Int32.ofInt 0)) := a_rq_ui hq
        exact ih (i + 1) _ hq (GI_f gi (fx_ui (fx_0) rfl)) (fx_ui (ge) (E2t (by omega))) (by omega) (lp_w (w42) (fun e => by have c := c2; rw [e, w42, if_neg (by omega)] at c; exact b_a1 c))
      | false =>
        cases c3 : xe_c .eq (xg 0 h.2.1 45 i) 0 with
        | true =>
          refine xq_m 156 [0, 1, 2] [(0, .ref 39), (1, .int (nI (4096 * t))), (2, .int ((nI i) + Int32.ofInt 1))] [] (xh_ui h 42 (((nI (4096 * t)) + (nI i)).toNatClampNeg) (vp_nar .boolean (Int32.ofInt 0))) [false, false, true] 26 hq rfl ⟨c1, (show xe_c .eq (xg 0 h.2.1 42 (((nI (4096 * t)) + (nI i)).toNatClampNeg)) 0 = false by rw [show (xg 0 h.2.1 42 (((nI (4096 * t)) + (nI i)).toNatClampNeg)) = xg 0 h.2.1 42 (4096 * t + i) from (by rw [show ((nI (4096 * t)) + (nI i)) = nI (4096 * t + i) from nI_add _ _, show ((nI (4096 * t + i)).toNatClampNeg) = (4096 * t + i) from nI_clamp (by omega)])]; exact c2), (show xe_c .eq (xg 0 h.2.1 45 ((nI i).toNatClampNeg)) 0 = true by rw [show (xg 0 h.2.1 45 ((nI i).toNatClampNeg)) = xg 0 h.2.1 45 i from (by rw [show ((nI i).toNatClampNeg) = i from nI_clamp (by omega)])]; exact c3), trivial⟩ (fun _ => ?_)
          rw [show ((nI (4096 * t)) + (nI i)) = nI (4096 * t + i) from nI_add _ _]
          rw [show (vp_nar .boolean (Int32.ofInt 0)) = Int32.ofInt 0 from rfl]
          rw [show ((nI (4096 * t + i)).toNatClampNeg) = (4096 * t + i) from nI_clamp (by omega)]
          rw [show ((nI i) + Int32.ofInt 1) = nI (i + 1) from nI_1 _]
          have hq : a_rq a_tb (xh_ui h 42 (4096 * t + i) (Int32.ofInt 0)) := a_rq_ui hq
          exact ih (i + 1) _ hq (GI_f gi (fx_ui (fx_0) rfl)) (fx_ui (ge) (E2t (by omega))) (by omega) (lp_w (w42) (fun e => by have c := c2; rw [e, w42, if_neg (by omega)] at c; have c' := c3; rw [e, show xg 0 h.2.1 45 sv = bl one from (fx_i ge rfl).trans b45] at c'; exact b_a2 c c'))
        | false =>
          refine xq_m 156 [0, 1, 2] [(0, .ref 39), (1, .int (nI (4096 * t))), (2, .int ((nI i) + Int32.ofInt 1))] [] (xh_ui h 42 (((nI (4096 * t)) + (nI i)).toNatClampNeg) (vp_nar .boolean (Int32.ofInt 1))) [false, false, false] 27 hq rfl ⟨c1, (show xe_c .eq (xg 0 h.2.1 42 (((nI (4096 * t)) + (nI i)).toNatClampNeg)) 0 = false by rw [show (xg 0 h.2.1 42 (((nI (4096 * t)) + (nI i)).toNatClampNeg)) = xg 0 h.2.1 42 (4096 * t + i) from (by rw [show ((nI (4096 * t)) + (nI i)) = nI (4096 * t + i) from nI_add _ _, show ((nI (4096 * t + i)).toNatClampNeg) = (4096 * t + i) from nI_clamp (by omega)])]; exact c2), (show xe_c .eq (xg 0 h.2.1 45 ((nI i).toNatClampNeg)) 0 = false by rw [show (xg 0 h.2.1 45 ((nI i).toNatClampNeg)) = xg 0 h.2.1 45 i from (by rw [show ((nI i).toNatClampNeg) = i from nI_clamp (by omega)])]; exact c3), trivial⟩ (fun _ => ?_)
          rw [show ((nI (4096 * t)) + (nI i)) = nI (4096 * t + i) from nI_add _ _]
          rw [show (vp_nar .boolean (Int32.ofInt 1)) = Int32.ofInt 1 from rfl]
          rw [show ((nI (4096 * t + i)).toNatClampNeg) = (4096 * t + i) from nI_clamp (by omega)]
          rw [show ((nI i) + Int32.ofInt 1) = nI (i + 1) from nI_1 _]
          have hq : a_rq a_tb (xh_ui h 42 (4096 * t + i) (Int32.ofInt 1)) := a_rq_ui hq
          exact ih (i + 1) _ hq (GI_f gi (fx_ui (fx_0) rfl)) (fx_ui (ge) (E2t (by omega))) (by omega) (lp_w (w42) (fun e => by have c := c2; rw [e, w42, if_neg (by omega)] at c; have c' := c3; rw [e, show xg 0 h.2.1 45 sv = bl one from (fx_i ge rfl).trans b45] at c'; exact b_a3 c c'))
set_option maxRecDepth 100000 in
set_option maxHeartbeats 4000000 in
theorem eld_222 {p o aw sv t : Nat} {fs : List Nat} {h0 hb : xh_H} {ov av : Bool} {Q : Option Value → xh_H → Prop} (s4 : sv < 4096) (et : fs.length - 1 = t) (t12 : t ≤ 12) (K : ∀ (f : Nat) (x : Int32) (h : xh_H), a_rq a_tb h → GI h0 h T n mem nn NW p o fs aw → fx (E1 t) fN hb h → xg 0 h.2.1 41 (4096 * t + sv) = bl (ov || av) → xg 0 h.2.1 42 (4096 * t + sv) = bl true → xq f xi_X10_end_ xmi_X10_end_ 279 [(0, .ref 39), (1, .int (nI (4096 * t))), (2, .int x)] [] h Q) : ∀ (f i : Nat) (h : xh_H), a_rq a_tb h → GI h0 h T n mem nn NW p o fs aw → fx (E1 t) fN hb h → i ≤ 4096 → xg 0 h.2.1 41 (4096 * t + sv) = (if sv < i then bl (ov || av) else bl ov) → xg 0 h.2.1 42 (4096 * t + sv) = (if sv < i then bl true else bl av) → xq f xi_X10_end_ xmi_X10_end_ 222 [(0, .ref 39), (1, .int (nI (4096 * t))), (2, .int (nI i))] [] h Q := by
  intro f
  induction f with
  | zero => intros; exact xq_0
  | succ f ih =>
    intro i h hq gi ge i6 w41 w42
    have e28 : xg 0 h.2.1 39 28 = nI t := by rw [← et]; exact gi.2.1.2.2.2.2.2.2.2.1
    cases c1 : xe_c .ge (nI i) 4096 with
    | true =>
      have z1 : i ≥ 4096 := nq_get (a := i) (b := 4096) (by omega) (by omega) c1
      refine xq_m 279 [0, 1, 2] [(0, .ref 39), (1, .int (nI (4096 * t))), (2, .int (nI i))] [] h [true] 5 hq rfl ⟨c1, trivial⟩ (fun hq => ?_)
      exact K f _ _ hq gi ge (lp_1 w41 (by omega)) (lp_1 w42 (by omega))
    | false =>
      have z1 : i < 4096 := nq_gef (a := i) (b := 4096) (by omega) (by omega) c1
      cases c2 : xe_c .ne (xg 0 h.2.1 41 (4096 * t + i)) 0 with
      | true =>
        refine xq_m 222 [0, 1, 2] [(0, .ref 39), (1, .int (nI (4096 * t))), (2, .int ((nI i) + Int32.ofInt 1))] [] (xh_ui (xh_ui h 41 (((nI (4096 * t)) + (nI i)).toNatClampNeg) (vp_nar .boolean (Int32.ofInt 1))) 42 (((nI (4096 * t)) + (nI i)).toNatClampNeg) (vp_nar .boolean (Int32.ofInt 1))) [false, true] 29 hq rfl ⟨c1, (show xe_c .ne (xg 0 h.2.1 41 (((nI (4096 * t)) + (nI i)).toNatClampNeg)) 0 = true by rw [show (xg 0 h.2.1 41 (((nI (4096 * t)) + (nI i)).toNatClampNeg)) = xg 0 h.2.1 41 (4096 * t + i) from (by rw [show ((nI (4096 * t)) + (nI i)) = nI (4096 * t + i) from nI_add _ _, show ((nI (4096 * t + i)).toNatClampNeg) = (4096 * t + i) from nI_clamp (by omega)])]; exact c2), trivial⟩ (fun _ => ?_)
        rw [show ((nI (4096 * t)) + (nI i)) = nI (4096 * t + i) from nI_add _ _]
        rw [show (vp_nar .boolean (Int32.ofInt 1)) = Int32.ofInt 1 from rfl]
        rw [show ((nI (4096 * t + i)).toNatClampNeg) = (4096 * t + i) from nI_clamp (by omega)]
        rw [show ((nI i) + Int32.ofInt 1) = nI (i + 1) from nI_1 _]
        have hq : a_rq a_tb (xh_ui (xh_ui h 41 (4096 * t + i) (Int32.ofInt 1)) 42 (4096 * t + i) (Int32.ofInt 1)) := a_rq_ui (a_rq_ui hq)
        exact ih (i + 1) _ hq (GI_f gi (fx_ui (fx_ui (fx_0) rfl) rfl)) (fx_ui (fx_ui (ge) (E1t (by omega))) (E1u (by omega))) (by omega) ((gx_o (by decide)).trans (lp_w (w41) (fun e => by have c := c2; rw [e, w41, if_neg (by omega)] at c; exact b_o1 c))) (lp_w (((gx_o (by decide)).trans w42)) (fun e => rfl))
      | false =>
        cases c3 : xe_c .eq (xg 0 h.2.1 42 (4096 * t + i)) 0 with
        | true =>
          refine xq_m 222 [0, 1, 2] [(0, .ref 39), (1, .int (nI (4096 * t))), (2, .int ((nI i) + Int32.ofInt 1))] [] (xh_ui (xh_ui h 41 (((nI (4096 * t)) + (nI i)).toNatClampNeg) (vp_nar .boolean (Int32.ofInt 0))) 42 (((nI (4096 * t)) + (nI i)).toNatClampNeg) (vp_nar .boolean (Int32.ofInt 1))) [false, false, true] 35 hq rfl ⟨c1, (show xe_c .ne (xg 0 h.2.1 41 (((nI (4096 * t)) + (nI i)).toNatClampNeg)) 0 = false by rw [show (xg 0 h.2.1 41 (((nI (4096 * t)) + (nI i)).toNatClampNeg)) = xg 0 h.2.1 41 (4096 * t + i) from (by rw [show ((nI (4096 * t)) + (nI i)) = nI (4096 * t + i) from nI_add _ _, show ((nI (4096 * t + i)).toNatClampNeg) = (4096 * t + i) from nI_clamp (by omega)])]; exact c2), (show xe_c .eq (xg 0 h.2.1 42 (((nI (4096 * t)) + (nI i)).toNatClampNeg)) 0 = true by rw [show (xg 0 h.2.1 42 (((nI (4096 * t)) + (nI i)).toNatClampNeg)) = xg 0 h.2.1 42 (4096 * t + i) from (by rw [show ((nI (4096 * t)) + (nI i)) = nI (4096 * t + i) from nI_add _ _, show ((nI (4096 * t + i)).toNatClampNeg) = (4096 * t + i) from nI_clamp (by omega)])]; exact c3), trivial⟩ (fun _ => ?_)
          rw [show ((nI (4096 * t)) + (nI i)) = nI (4096 * t + i) from nI_add _ _]
          rw [show (vp_nar .boolean (Int32.ofInt 0)) = Int32.ofInt 0 from rfl]
          rw [show (vp_nar .boolean (Int32.ofInt 1)) = Int32.ofInt 1 from rfl]
          rw [show ((nI (4096 * t + i)).toNatClampNeg) = (4096 * t + i) from nI_clamp (by omega)]
          rw [show ((nI i) + Int32.ofInt 1) = nI (i + 1) from nI_1 _]
          have hq : a_rq a_tb (xh_ui (xh_ui h 41 (4096 * t + i) (Int32.ofInt 0)) 42 (4096 * t + i) (Int32.ofInt 1)) := a_rq_ui (a_rq_ui hq)
          exact ih (i + 1) _ hq (GI_f gi (fx_ui (fx_ui (fx_0) rfl) rfl)) (fx_ui (fx_ui (ge) (E1t (by omega))) (E1u (by omega))) (by omega) ((gx_o (by decide)).trans (lp_w (w41) (fun e => by have c := c2; rw [e, w41, if_neg (by omega)] at c; have c' := c3; rw [e, w42, if_neg (by omega)] at c'; exact b_o2 c c'))) (lp_w (((gx_o (by decide)).trans w42)) (fun e => rfl))
        | false =>
          refine xq_m 222 [0, 1, 2] [(0, .ref 39), (1, .int (nI (4096 * t))), (2, .int ((nI i) + Int32.ofInt 1))] [] (xh_ui (xh_ui h 41 (((nI (4096 * t)) + (nI i)).toNatClampNeg) (vp_nar .boolean (Int32.ofInt 1))) 42 (((nI (4096 * t)) + (nI i)).toNatClampNeg) (vp_nar .boolean (Int32.ofInt 1))) [false, false, false] 36 hq rfl ⟨c1, (show xe_c .ne (xg 0 h.2.1 41 (((nI (4096 * t)) + (nI i)).toNatClampNeg)) 0 = false by rw [show (xg 0 h.2.1 41 (((nI (4096 * t)) + (nI i)).toNatClampNeg)) = xg 0 h.2.1 41 (4096 * t + i) from (by rw [show ((nI (4096 * t)) + (nI i)) = nI (4096 * t + i) from nI_add _ _, show ((nI (4096 * t + i)).toNatClampNeg) = (4096 * t + i) from nI_clamp (by omega)])]; exact c2), (show xe_c .eq (xg 0 h.2.1 42 (((nI (4096 * t)) + (nI i)).toNatClampNeg)) 0 = false by rw [show (xg 0 h.2.1 42 (((nI (4096 * t)) + (nI i)).toNatClampNeg)) = xg 0 h.2.1 42 (4096 * t + i) from (by rw [show ((nI (4096 * t)) + (nI i)) = nI (4096 * t + i) from nI_add _ _, show ((nI (4096 * t + i)).toNatClampNeg) = (4096 * t + i) from nI_clamp (by omega)])]; exact c3), trivial⟩ (fun _ => ?_)
          rw [show ((nI (4096 * t)) + (nI i)) = nI (4096 * t + i) from nI_add _ _]
          rw [show (vp_nar .boolean (Int32.ofInt 1)) = Int32.ofInt 1 from rfl]
          rw [show ((nI (4096 * t + i)).toNatClampNeg) = (4096 * t + i) from nI_clamp (by omega)]
          rw [show ((nI i) + Int32.ofInt 1) = nI (i + 1) from nI_1 _]
          have hq : a_rq a_tb (xh_ui (xh_ui h 41 (4096 * t + i) (Int32.ofInt 1)) 42 (4096 * t + i) (Int32.ofInt 1)) := a_rq_ui (a_rq_ui hq)
          exact ih (i + 1) _ hq (GI_f gi (fx_ui (fx_ui (fx_0) rfl) rfl)) (fx_ui (fx_ui (ge) (E1t (by omega))) (E1u (by omega))) (by omega) ((gx_o (by decide)).trans (lp_w (w41) (fun e => by have c := c2; rw [e, w41, if_neg (by omega)] at c; have c' := c3; rw [e, w42, if_neg (by omega)] at c'; exact b_o3 c c'))) (lp_w (((gx_o (by decide)).trans w42)) (fun e => rfl))
set_option maxRecDepth 100000 in
set_option maxHeartbeats 4000000 in
theorem eld_299 {p o aw sv t : Nat} {fs : List Nat} {h0 hb : xh_H} {one ov : Bool} {Q : Option Value → xh_H → Prop} (s4 : sv < 4096) (et : fs.length - 1 = t) (t12 : t ≤ 12) (b41 : xg 0 hb.2.1 41 (4096 * t + sv) = bl ov) (K : ∀ (f : Nat) (x : Int32) (h : xh_H), a_rq a_tb h → GI h0 h T n mem nn NW p o fs aw → fx E5 fN hb h → xg 0 h.2.1 45 sv = bl ov → xq f xi_X10_end_ xmi_X10_end_ 326 [(0, .ref 39), (1, .int (nI (4096 * t))), (2, .int x)] [] h Q) : ∀ (f i : Nat) (h : xh_H), a_rq a_tb h → GI h0 h T n mem nn NW p o fs aw → fx E5 fN hb h → i ≤ 4096 → xg 0 h.2.1 45 sv = (if sv < i then bl ov else bl one) → xq f xi_X10_end_ xmi_X10_end_ 299 [(0, .ref 39), (1, .int (nI (4096 * t))), (2, .int (nI i))] [] h Q := by
  intro f
  induction f with
  | zero => intros; exact xq_0
  | succ f ih =>
    intro i h hq gi ge i6 w45
    have e28 : xg 0 h.2.1 39 28 = nI t := by rw [← et]; exact gi.2.1.2.2.2.2.2.2.2.1
    cases c1 : xe_c .ge (nI i) 4096 with
    | true =>
      have z1 : i ≥ 4096 := nq_get (a := i) (b := 4096) (by omega) (by omega) c1
      refine xq_m 326 [0, 1, 2] [(0, .ref 39), (1, .int (nI (4096 * t))), (2, .int (nI i))] [] h [true] 5 hq rfl ⟨c1, trivial⟩ (fun hq => ?_)
      exact K f _ _ hq gi ge (lp_1 w45 (by omega))
    | false =>
      have z1 : i < 4096 := nq_gef (a := i) (b := 4096) (by omega) (by omega) c1
      refine xq_m 299 [0, 1, 2] [(0, .ref 39), (1, .int (nI (4096 * t))), (2, .int ((nI i) + Int32.ofInt 1))] [] (xh_ui h 45 ((nI i).toNatClampNeg) (vp_nar .boolean (xg 0 h.2.1 41 (((nI (4096 * t)) + (nI i)).toNatClampNeg)))) [false] 17 hq rfl ⟨c1, trivial⟩ (fun _ => ?_)
      rw [show (xg 0 h.2.1 41 (((nI (4096 * t)) + (nI i)).toNatClampNeg)) = xg 0 h.2.1 41 (4096 * t + i) from (by rw [show ((nI (4096 * t)) + (nI i)) = nI (4096 * t + i) from nI_add _ _, show ((nI (4096 * t + i)).toNatClampNeg) = (4096 * t + i) from nI_clamp (by omega)])]
      rw [show ((nI i).toNatClampNeg) = i from nI_clamp (by omega)]
      rw [show ((nI i) + Int32.ofInt 1) = nI (i + 1) from nI_1 _]
      have hq : a_rq a_tb (xh_ui h 45 i (vp_nar .boolean (xg 0 h.2.1 41 (4096 * t + i)))) := a_rq_ui hq
      exact ih (i + 1) _ hq (GI_f gi (fx_ui (fx_0) rfl)) (fx_ui (ge) rfl) (by omega) (lp_w0 (w45) (fun e => by rw [e, show xg 0 h.2.1 41 (4096 * t + sv) = bl ov from (fx_i ge rfl).trans b41]; exact bl_n))
set_option maxRecDepth 100000 in
set_option maxHeartbeats 4000000 in
theorem en_138d {f p o ty : Nat} {fs : List Nat} {h0 h : xh_H} {x : Int32} {sv t : Nat} {fr : List Nat} {ov av one y : Bool} {su w nd : Int32} {r : List vF} (s4 : sv < 4096) (hfs : fs = ty :: fr) (ht : fr.length = t) (dt : dfr h sv fr r) (hq : a_rq a_tb h) (gi : GI h0 h T n mem nn NW p o fs 0) (wf : wfs fs) (hty : fs.head? = some ty) (e47 : xg 0 h.2.1 47 (fs.length - 1) = nI ty) (ty2 : ty ≤ 2) (e2 : ty = 2) (b93 : tkk T n p = 93) (d45 : xg 0 h.2.1 45 sv = bl y) (yv : xe_c .ge (if one = true then su + w else su) nd = y) : xq f xi_X10_end_ xmi_X10_end_ 138 [(0, .ref 39), (1, .int (nI (4096 * t))), (2, .int x)] [] h (fun v h' => dQ h' sv (en T n p o fs) (ven T n p fs ((ov, av, su, w, nd) :: r) one)) := by
  have rr0 := gi.2.1
  have g0 := gi.1
  have hT : ∀ k, k < n → T k < 256 := fun k hk' => (rr0.1.2.2 k hk').1
  have rt := rr0.2.1
  have rb := (rkk_k (T := T) (n := n) (p := p)).1
  have kb := tkk_lt (T := T) (n := n) (p := p) hT
  have o120 := rr0.2.2.2.2.2.2.1
  have f1 := rr0.2.2.2.2.2.2.2.2.1
  have n16 := rr0.2.2.2.2.1.2.1
  have f13 := rr0.2.2.2.2.2.2.2.2.2.1
  have n6 := rr0.1.2.1
  have hh : ∀ j, fs.head? = some j ↔ ty = j := fun j => by rw [hty]; exact ⟨fun e => Option.some.inj e, fun e => by rw [e]⟩
  have et : fs.length - 1 = t := by rw [hfs, ← ht]; rfl
  have t12 : t ≤ 12 := by omega
  have fl2 : ty ≠ 0 → 2 ≤ fs.length := fun e => by
    have w := wfs_t wf (fun e1 => e ((hh 0).mp e1))
    have w2 := wfs_n w
    cases hf : fs with
    | nil => rw [hf] at f1; exact absurd f1 (by decide)
    | cons a b =>
      cases b with
      | nil => rw [hf] at w2; exact absurd rfl w2
      | cons c d => simp only [List.length_cons]; omega
  refine xq_n 149 [0, 1, 2] [(0, .ref 39), (1, .int (nI (4096 * t))), (2, .int x)] [.ref 39] (xh_ui h 39 28 ((xg 0 h.2.1 39 28) - (Int32.ofInt 1))) [] 9 hq rfl trivial (fun _ => ?_)
  rw [show (xg 0 h.2.1 39 28) = (nI t) from (by rw [← et]; exact rr0.2.2.2.2.2.2.2.1)]
  rw [show ((nI t) - (Int32.ofInt 1)) = nI (t - 1) from nI_sub (b := 1) (by omega)]
  have hq : a_rq a_tb (xh_ui h 39 28 (nI (t - 1))) := a_rq_ui hq
  have nz1 : tkk T n p ≠ 0 := by omega
  have le1 := tke_le nz1
  refine xq_run hq rfl rfl (go_q hq (rtp_f (S := rT) (L := gL) rr0.1 (fx_ui (fx_0) rfl) rfl (fun _ => rfl)) ((gx_k (by decide)).trans (rt.2.2.2.2.2 (by omega))) le1) ?_
  rintro v1 h1 ⟨rfl, g1, t1⟩
  have hq := fx_q g1 hq
  have rb1 := (rkk_k (T := T) (n := n) (p := tke T n p)).1
  have kb1 := tkk_lt (T := T) (n := n) (p := tke T n p) hT
  refine xq_n 153 [] [] [.int (Int32.ofInt 1)] h1 [] 3 hq rfl trivial (fun hq => ?_)
  have er : en T n p o fs = .inl (0, tke T n p, o, fs.tail) := by
    unfold en
    rw [if_pos ((hh 2).mpr e2)]
    repeat (first | rw [if_pos (by omega)] | rw [if_neg (by omega)])
    try rfl
  have ev : ven T n p fs ((ov, av, su, w, nd) :: r) one = (r, y) := by
    rw [ven_c]
    rw [if_pos ((hh 2).mpr e2)]
    rw [if_pos (show tkk T n p = 93 by omega), yv]
    repeat (first | rw [if_pos (by omega)] | rw [if_neg (by omega)])
    try rfl
  rw [ev]
  exact xq_ret rfl rfl rfl (dQ_l er (by rw [hfs]; exact dfr_go s4 (dfr_39 s4 (dt)) g1) ((fx_i g1 rfl).trans ((gx_o (by decide)).trans (d45))))
set_option maxRecDepth 100000 in
set_option maxHeartbeats 4000000 in
theorem en_66d {f p o ty : Nat} {fs : List Nat} {h0 h : xh_H} {x : Int32} {sv t : Nat} {fr : List Nat} {ov av one : Bool} {su w nd S : Int32} {r : List vF} (s4 : sv < 4096) (hfs : fs = ty :: fr) (ht : fr.length = t) (dt : dfr h sv fr r) (hq : a_rq a_tb h) (gi : GI h0 h T n mem nn NW p o fs 0) (wf : wfs fs) (hty : fs.head? = some ty) (e47 : xg 0 h.2.1 47 (fs.length - 1) = nI ty) (ty2 : ty ≤ 2) (e2 : ty = 2) (d45 : xg 0 h.2.1 45 sv = bl one) (d46 : xg 0 h.2.1 46 (4096 * t + sv) = S) (d49 : xg 0 h.2.1 49 t = nd) (Sv : S = if one = true then su + w else su) : xq f xi_X10_end_ xmi_X10_end_ 66 [(0, .ref 39), (1, .int (nI (4096 * t))), (2, .int x)] [] h (fun v h' => dQ h' sv (en T n p o fs) (ven T n p fs ((ov, av, su, w, nd) :: r) one)) := by
  have rr0 := gi.2.1
  have g0 := gi.1
  have hT : ∀ k, k < n → T k < 256 := fun k hk' => (rr0.1.2.2 k hk').1
  have rt := rr0.2.1
  have rb := (rkk_k (T := T) (n := n) (p := p)).1
  have kb := tkk_lt (T := T) (n := n) (p := p) hT
  have o120 := rr0.2.2.2.2.2.2.1
  have f1 := rr0.2.2.2.2.2.2.2.2.1
  have n16 := rr0.2.2.2.2.1.2.1
  have f13 := rr0.2.2.2.2.2.2.2.2.2.1
  have n6 := rr0.1.2.1
  have hh : ∀ j, fs.head? = some j ↔ ty = j := fun j => by rw [hty]; exact ⟨fun e => Option.some.inj e, fun e => by rw [e]⟩
  have et : fs.length - 1 = t := by rw [hfs, ← ht]; rfl
  have t12 : t ≤ 12 := by omega
  have fl2 : ty ≠ 0 → 2 ≤ fs.length := fun e => by
    have w := wfs_t wf (fun e1 => e ((hh 0).mp e1))
    have w2 := wfs_n w
    cases hf : fs with
    | nil => rw [hf] at f1; exact absurd f1 (by decide)
    | cons a b =>
      cases b with
      | nil => rw [hf] at w2; exact absurd rfl w2
      | cons c d => simp only [List.length_cons]; omega
  have e47t : ∀ {h' : xh_H}, GI h0 h' T n mem nn NW p o fs 0 → xg 0 h'.2.1 47 (fs.length - 1) = nI ty := fun {h'} g => by
    have w := g.2.1.2.2.2.2.2.2.2.2.2.2.1
    cases hf : fs with
    | nil => rw [hf] at hty; cases hty
    | cons a b =>
      rw [hf] at w hty
      have hty : a = ty := Option.some.inj hty
      rw [← hty]
      exact w.1
  refine xq_n 79 [0, 1, 2] [(0, .ref 39), (1, .int (nI (4096 * t))), (2, .int x)] [.int 93, .ref 39] (xh_ui h 48 ((xg 0 h.2.1 39 28).toNatClampNeg) (Int32.ofInt 1)) [] 10 hq rfl trivial (fun _ => ?_)
  rw [show (xg 0 h.2.1 39 28) = (nI t) from (by rw [← et]; exact rr0.2.2.2.2.2.2.2.1)]
  rw [show ((nI t).toNatClampNeg) = t from nI_clamp (by omega)]
  have hq : a_rq a_tb (xh_ui h 48 t (Int32.ofInt 1)) := a_rq_ui hq
  refine xq_run hq rfl rfl (rsg_q (c := 93) (by decide) (by decide) hT (rtk_ui (rt) rfl) hq) ?_
  rintro v1 h_v1 ⟨rfl, rfl⟩
  cases b2 : (decide (tkk T n p = 93)) with
  | true =>
    have db2 := of_decide_eq_true b2
    refine xq_n 94 [0, 1, 2] [(0, .ref 39), (1, .int (nI (4096 * t))), (2, .int (Int32.ofInt 0))] [] (xh_ui h 48 t (Int32.ofInt 1)) [true] 5 hq rfl ⟨rfl, trivial⟩ (fun hq => ?_)
    exact eld_94 (hb := (xh_ui h 48 t (Int32.ofInt 1))) s4 et t12 ((gx_o (by decide)).trans (d46)) ((gx_o (by decide)).trans (d49)) (fun f x h hq gi ge w45 => en_138d s4 hfs ht (dE5 s4 (dfr_48t s4 ht (dt)) ge) hq gi wf hty (e47t gi) ty2 e2 (by omega) w45 (by rw [Sv])) f 0 _ hq (GI_f gi (fx_ui (fx_0) rfl)) fx_0 (by omega) (lp_0 _ ((gx_o (by decide)).trans (d45)))
  | false =>
    have db2 := of_decide_eq_false b2
    refine xq_n 91 [] [] [.int (Int32.ofInt 1)] (xh_ui (xh_ui h 48 t (Int32.ofInt 1)) 39 29 (Int32.ofInt 1)) [false] 7 hq rfl ⟨rfl, trivial⟩ (fun _ => ?_)
    have hq : a_rq a_tb (xh_ui (xh_ui h 48 t (Int32.ofInt 1)) 39 29 (Int32.ofInt 1)) := a_rq_ui hq
    have er : en T n p o fs = .inl (1, p, o, fs) := by
      unfold en
      rw [if_pos ((hh 2).mpr e2)]
      repeat (first | rw [if_pos (by omega)] | rw [if_neg (by omega)] | rw [if_pos b2] | rw [if_neg (by rw [b2]; decide)])
      try rfl
    have ev : ven T n p fs ((ov, av, su, w, nd) :: r) one = ((ov, av, S, 1, nd) :: r, one) := by
      rw [ven_c]
      rw [if_pos ((hh 2).mpr e2)]
      rw [← Sv]
      repeat (first | rw [if_pos (by omega)] | rw [if_neg (by omega)] | rw [if_pos b2] | rw [if_neg (by rw [b2]; decide)])
      try rfl
    rw [ev]
    refine xq_ret rfl rfl rfl (dQ_l er ?_ ((gx_o (by decide)).trans ((gx_o (by decide)).trans (d45))))
    have dtl : dfr (xh_ui (xh_ui h 48 t (Int32.ofInt 1)) 39 29 (Int32.ofInt 1)) sv fr r := (dfr_39 s4 (dfr_48t s4 ht (dt)))
    have q1 : xg 0 (xh_ui (xh_ui h 48 t (Int32.ofInt 1)) 39 29 (Int32.ofInt 1)).2.1 46 (4096 * t + sv) = S := (gx_o (by decide)).trans ((gx_o (by decide)).trans (d46))
    have q2 : xg 0 (xh_ui (xh_ui h 48 t (Int32.ofInt 1)) 39 29 (Int32.ofInt 1)).2.1 48 t = 1 := (gx_o (by decide)).trans (gx_s)
    have q3 : xg 0 (xh_ui (xh_ui h 48 t (Int32.ofInt 1)) 39 29 (Int32.ofInt 1)).2.1 49 t = nd := (gx_o (by decide)).trans ((gx_o (by decide)).trans (d49))
    rw [hfs]
    subst ht
    exact ⟨fun _ => ⟨q1, q2, q3⟩, fun z => absurd e2 z, dtl⟩
set_option maxRecDepth 100000 in
set_option maxHeartbeats 4000000 in
theorem en_326d {f p o ty : Nat} {fs : List Nat} {h0 h : xh_H} {x : Int32} {sv t : Nat} {fr : List Nat} {ov av one y : Bool} {su w nd : Int32} {r : List vF} (s4 : sv < 4096) (hfs : fs = ty :: fr) (ht : fr.length = t) (dt : dfr h sv fr r) (hq : a_rq a_tb h) (gi : GI h0 h T n mem nn NW p o fs 0) (wf : wfs fs) (hty : fs.head? = some ty) (e47 : xg 0 h.2.1 47 (fs.length - 1) = nI ty) (ty2 : ty ≤ 2) (e2 : ty ≠ 2) (a2 : ky T n p 2 = false) (a3 : ky T n p 3 = false) (d45 : xg 0 h.2.1 45 sv = bl y) (yv : (ov || (av && one)) = y) : xq f xi_X10_end_ xmi_X10_end_ 326 [(0, .ref 39), (1, .int (nI (4096 * t))), (2, .int x)] [] h (fun v h' => dQ h' sv (en T n p o fs) (ven T n p fs ((ov, av, su, w, nd) :: r) one)) := by
  have rr0 := gi.2.1
  have g0 := gi.1
  have hT : ∀ k, k < n → T k < 256 := fun k hk' => (rr0.1.2.2 k hk').1
  have rt := rr0.2.1
  have rb := (rkk_k (T := T) (n := n) (p := p)).1
  have kb := tkk_lt (T := T) (n := n) (p := p) hT
  have o120 := rr0.2.2.2.2.2.2.1
  have f1 := rr0.2.2.2.2.2.2.2.2.1
  have n16 := rr0.2.2.2.2.1.2.1
  have f13 := rr0.2.2.2.2.2.2.2.2.2.1
  have n6 := rr0.1.2.1
  have hh : ∀ j, fs.head? = some j ↔ ty = j := fun j => by rw [hty]; exact ⟨fun e => Option.some.inj e, fun e => by rw [e]⟩
  have et : fs.length - 1 = t := by rw [hfs, ← ht]; rfl
  have t12 : t ≤ 12 := by omega
  have fl2 : ty ≠ 0 → 2 ≤ fs.length := fun e => by
    have w := wfs_t wf (fun e1 => e ((hh 0).mp e1))
    have w2 := wfs_n w
    cases hf : fs with
    | nil => rw [hf] at f1; exact absurd f1 (by decide)
    | cons a b =>
      cases b with
      | nil => rw [hf] at w2; exact absurd rfl w2
      | cons c d => simp only [List.length_cons]; omega
  cases c1 : xe_c .ne (nI ty) 0 with
  | true =>
    have z1 : ty ≠ 0 := nq_net (a := ty) (b := 0) (by omega) (by omega) c1
    refine xq_n 369 [0, 1, 2] [(0, .ref 39), (1, .int (nI (4096 * t))), (2, .int x)] [.int 41, .ref 39] h [true] 10 hq rfl ⟨(show xe_c .ne (xg 0 h.2.1 47 ((xg 0 h.2.1 39 28).toNatClampNeg)) 0 = true by rw [show (xg 0 h.2.1 47 ((xg 0 h.2.1 39 28).toNatClampNeg)) = (nI ty) from (by rw [show (xg 0 h.2.1 39 28) = (nI t) from (by rw [← et]; exact rr0.2.2.2.2.2.2.2.1), show ((nI t).toNatClampNeg) = t from nI_clamp (by omega)]; exact (by rw [← et]; exact e47))]; exact c1), trivial⟩ (fun hq => ?_)
    refine xq_run hq rfl rfl (rsg_q (c := 41) (by decide) (by decide) hT (rt) hq) ?_
    rintro v2 h_v2 ⟨rfl, rfl⟩
    cases b3 : (decide (tkk T n p = 41)) with
    | true =>
      have db3 := of_decide_eq_true b3
      refine xq_n 392 [0, 1, 2] [(0, .ref 39), (1, .int (nI (4096 * t))), (2, .int x)] [.ref 39] (xh_ui h 39 28 ((xg 0 h.2.1 39 28) - (Int32.ofInt 1))) [true] 10 hq rfl ⟨rfl, trivial⟩ (fun _ => ?_)
      rw [show (xg 0 h.2.1 39 28) = (nI t) from (by rw [← et]; exact rr0.2.2.2.2.2.2.2.1)]
      rw [show ((nI t) - (Int32.ofInt 1)) = nI (t - 1) from nI_sub (b := 1) (by omega)]
      have hq : a_rq a_tb (xh_ui h 39 28 (nI (t - 1))) := a_rq_ui hq
      have nz4 : tkk T n p ≠ 0 := by omega
      have le4 := tke_le nz4
      refine xq_run hq rfl rfl (go_q hq (rtp_f (S := rT) (L := gL) rr0.1 (fx_ui (fx_0) rfl) rfl (fun _ => rfl)) ((gx_k (by decide)).trans (rt.2.2.2.2.2 (by omega))) le4) ?_
      rintro v4 h4 ⟨rfl, g4, t4⟩
      have hq := fx_q g4 hq
      have rb4 := (rkk_k (T := T) (n := n) (p := tke T n p)).1
      have kb4 := tkk_lt (T := T) (n := n) (p := tke T n p) hT
      refine xq_n 396 [] [] [.int (Int32.ofInt 1)] h4 [] 3 hq rfl trivial (fun hq => ?_)
      have er : en T n p o fs = .inl (0, tke T n p, o, fs.tail) := by
        unfold en
        rw [if_neg (fun e => e2 ((hh 2).mp e))]
        rw [if_neg (by rw [a2]; decide), if_neg (by rw [a3]; decide)]
        first | rw [if_pos ((hh 0).mpr (by omega))] | rw [if_neg (fun e => by have := (hh 0).mp e; omega)]
        repeat (first | rw [if_pos (by omega)] | rw [if_neg (by omega)] | rw [if_pos b3] | rw [if_neg (by rw [b3]; decide)])
        try rfl
      have ev : ven T n p fs ((ov, av, su, w, nd) :: r) one = (r, y) := by
        rw [ven_c]
        rw [if_neg (fun e => e2 ((hh 2).mp e))]
        rw [if_neg (by rw [a2]; decide), if_neg (by rw [a3]; decide), yv]
        repeat (first | rw [if_pos (by omega)] | rw [if_neg (by omega)] | rw [if_pos b3] | rw [if_neg (by rw [b3]; decide)])
        try rfl
      rw [ev]
      exact xq_ret rfl rfl rfl (dQ_l er (by rw [hfs]; exact dfr_go s4 (dfr_39 s4 (dt)) g4) ((fx_i g4 rfl).trans ((gx_o (by decide)).trans (d45))))
    | false =>
      have db3 := of_decide_eq_false b3
      refine xq_n 377 [0, 1, 2] [(0, .ref 39), (1, .int (nI (4096 * t))), (2, .int x)] [.int (Int32.ofInt 1), .ref 39] h [false] 5 hq rfl ⟨rfl, trivial⟩ (fun hq => ?_)
      refine xq_run hq rfl rfl (bad_q (k := 1) hT (rt) hq) ?_
      rintro v5 h5 ⟨rfl, g5, f5, l5⟩
      have hq := fx_q g5 hq
      rw [show (if rkk T n p = 1 then 1 else 1) = 1 by split <;> rfl] at f5
      have er : en T n p o fs = .inr (1, tks T n p) := by
        unfold en
        rw [if_neg (fun e => e2 ((hh 2).mp e))]
        rw [if_neg (by rw [a2]; decide), if_neg (by rw [a3]; decide)]
        first | rw [if_pos ((hh 0).mpr (by omega))] | rw [if_neg (fun e => by have := (hh 0).mp e; omega)]
        repeat (first | rw [if_pos (by omega)] | rw [if_neg (by omega)] | rw [if_pos b3] | rw [if_neg (by rw [b3]; decide)])
        try rfl
      exact xq_ret rfl rfl rfl (dQ_r er)
  | false =>
    have z1 : ty = 0 := nq_nef (a := ty) (b := 0) (by omega) (by omega) c1
    refine xq_n 346 [0, 1, 2] [(0, .ref 39), (1, .int (nI (4096 * t))), (2, .int x)] [.int 59, .ref 39] (xh_ui h 39 30 (Int32.ofInt 1)) [false] 13 hq rfl ⟨(show xe_c .ne (xg 0 h.2.1 47 ((xg 0 h.2.1 39 28).toNatClampNeg)) 0 = false by rw [show (xg 0 h.2.1 47 ((xg 0 h.2.1 39 28).toNatClampNeg)) = (nI ty) from (by rw [show (xg 0 h.2.1 39 28) = (nI t) from (by rw [← et]; exact rr0.2.2.2.2.2.2.2.1), show ((nI t).toNatClampNeg) = t from nI_clamp (by omega)]; exact (by rw [← et]; exact e47))]; exact c1), trivial⟩ (fun _ => ?_)
    have hq : a_rq a_tb (xh_ui h 39 30 (Int32.ofInt 1)) := a_rq_ui hq
    refine xq_run hq rfl rfl (rsg_q (c := 59) (by decide) (by decide) hT (rtk_ui (rt) rfl) hq) ?_
    rintro v6 h_v6 ⟨rfl, rfl⟩
    cases b7 : (decide (tkk T n p = 59)) with
    | true =>
      have db7 := of_decide_eq_true b7
      refine xq_n 365 [] [] [.int (Int32.ofInt 1)] (xh_ui h 39 30 (Int32.ofInt 1)) [true] 5 hq rfl ⟨rfl, trivial⟩ (fun hq => ?_)
      have er : en T n p o fs = .inl (0, tke T n p, o, []) := by
        unfold en
        rw [if_neg (fun e => e2 ((hh 2).mp e))]
        rw [if_neg (by rw [a2]; decide), if_neg (by rw [a3]; decide)]
        first | rw [if_pos ((hh 0).mpr (by omega))] | rw [if_neg (fun e => by have := (hh 0).mp e; omega)]
        repeat (first | rw [if_pos (by omega)] | rw [if_neg (by omega)] | rw [if_pos b7] | rw [if_neg (by rw [b7]; decide)])
        try rfl
      have ev : ven T n p fs ((ov, av, su, w, nd) :: r) one = (r, y) := by
        rw [ven_c]
        rw [if_neg (fun e => e2 ((hh 2).mp e))]
        rw [if_neg (by rw [a2]; decide), if_neg (by rw [a3]; decide), yv]
        repeat (first | rw [if_pos (by omega)] | rw [if_neg (by omega)] | rw [if_pos b7] | rw [if_neg (by rw [b7]; decide)])
        try rfl
      rw [ev]
      have fn : fr = [] := by have := wfs_0 wf (by rw [hty, show ty = 0 by omega]); rw [hfs] at this; cases this; rfl
      exact xq_ret rfl rfl rfl (dQ_l er (by have d : dfr (xh_ui h 39 30 (Int32.ofInt 1)) sv fr r := (dfr_39 s4 (dt)); rw [fn] at d; exact d) ((gx_o (by decide)).trans (d45)))
    | false =>
      have db7 := of_decide_eq_false b7
      refine xq_n 354 [0, 1, 2] [(0, .ref 39), (1, .int (nI (4096 * t))), (2, .int x)] [.int (Int32.ofInt 1), .ref 39] (xh_ui h 39 30 (Int32.ofInt 1)) [false] 5 hq rfl ⟨rfl, trivial⟩ (fun hq => ?_)
      refine xq_run hq rfl rfl (bad_q (k := 1) hT (rtk_ui (rt) rfl) hq) ?_
      rintro v8 h8 ⟨rfl, g8, f8, l8⟩
      have hq := fx_q g8 hq
      rw [show (if rkk T n p = 1 then 1 else 1) = 1 by split <;> rfl] at f8
      refine xq_n 365 [] [] [.int (Int32.ofInt 0)] h8 [true] 4 hq rfl ⟨(by decide), trivial⟩ (fun hq => ?_)
      have er : en T n p o fs = .inr (1, tks T n p) := by
        unfold en
        rw [if_neg (fun e => e2 ((hh 2).mp e))]
        rw [if_neg (by rw [a2]; decide), if_neg (by rw [a3]; decide)]
        first | rw [if_pos ((hh 0).mpr (by omega))] | rw [if_neg (fun e => by have := (hh 0).mp e; omega)]
        repeat (first | rw [if_pos (by omega)] | rw [if_neg (by omega)] | rw [if_pos b7] | rw [if_neg (by rw [b7]; decide)])
        try rfl
      exact xq_ret rfl rfl rfl (dQ_r er)
set_option maxRecDepth 100000 in
set_option maxHeartbeats 4000000 in
theorem en_279d {f p o ty : Nat} {fs : List Nat} {h0 h : xh_H} {x : Int32} {sv t : Nat} {fr : List Nat} {ov av one y : Bool} {su w nd : Int32} {r : List vF} (s4 : sv < 4096) (hfs : fs = ty :: fr) (ht : fr.length = t) (dt : dfr h sv fr r) (hq : a_rq a_tb h) (gi : GI h0 h T n mem nn NW p o fs 0) (wf : wfs fs) (hty : fs.head? = some ty) (e47 : xg 0 h.2.1 47 (fs.length - 1) = nI ty) (ty2 : ty ≤ 2) (e2 : ty ≠ 2) (a2 : ky T n p 2 = false) (d45 : xg 0 h.2.1 45 sv = bl one) (d41 : xg 0 h.2.1 41 (4096 * t + sv) = bl y) (d42 : xg 0 h.2.1 42 (4096 * t + sv) = bl true) (yv : (ov || (av && one)) = y) : xq f xi_X10_end_ xmi_X10_end_ 279 [(0, .ref 39), (1, .int (nI (4096 * t))), (2, .int x)] [] h (fun v h' => dQ h' sv (en T n p o fs) (ven T n p fs ((ov, av, su, w, nd) :: r) one)) := by
  have rr0 := gi.2.1
  have g0 := gi.1
  have hT : ∀ k, k < n → T k < 256 := fun k hk' => (rr0.1.2.2 k hk').1
  have rt := rr0.2.1
  have rb := (rkk_k (T := T) (n := n) (p := p)).1
  have kb := tkk_lt (T := T) (n := n) (p := p) hT
  have o120 := rr0.2.2.2.2.2.2.1
  have f1 := rr0.2.2.2.2.2.2.2.2.1
  have n16 := rr0.2.2.2.2.1.2.1
  have f13 := rr0.2.2.2.2.2.2.2.2.2.1
  have n6 := rr0.1.2.1
  have hh : ∀ j, fs.head? = some j ↔ ty = j := fun j => by rw [hty]; exact ⟨fun e => Option.some.inj e, fun e => by rw [e]⟩
  have et : fs.length - 1 = t := by rw [hfs, ← ht]; rfl
  have t12 : t ≤ 12 := by omega
  have fl2 : ty ≠ 0 → 2 ≤ fs.length := fun e => by
    have w := wfs_t wf (fun e1 => e ((hh 0).mp e1))
    have w2 := wfs_n w
    cases hf : fs with
    | nil => rw [hf] at f1; exact absurd f1 (by decide)
    | cons a b =>
      cases b with
      | nil => rw [hf] at w2; exact absurd rfl w2
      | cons c d => simp only [List.length_cons]; omega
  have e47t : ∀ {h' : xh_H}, GI h0 h' T n mem nn NW p o fs 0 → xg 0 h'.2.1 47 (fs.length - 1) = nI ty := fun {h'} g => by
    have w := g.2.1.2.2.2.2.2.2.2.2.2.2.1
    cases hf : fs with
    | nil => rw [hf] at hty; cases hty
    | cons a b =>
      rw [hf] at w hty
      have hty : a = ty := Option.some.inj hty
      rw [← hty]
      exact w.1
  refine xq_n 280 [0, 1, 2] [(0, .ref 39), (1, .int (nI (4096 * t))), (2, .int x)] [.ref 39] h [] 3 hq rfl trivial (fun hq => ?_)
  refine xq_run hq rfl rfl (rw3_q hT (rt) hq) ?_
  rintro v1 h_v1 ⟨rfl, rfl⟩
  cases b2 : (ky T n p 3) with
  | true =>
    have db2 := of_decide_eq_true b2
    refine xq_n 292 [0, 1, 2] [(0, .ref 39), (1, .int (nI (4096 * t))), (2, .int x)] [.ref 39] (xh_ui h 39 29 (Int32.ofInt 1)) [false] 7 hq rfl ⟨rfl, trivial⟩ (fun _ => ?_)
    have hq : a_rq a_tb (xh_ui h 39 29 (Int32.ofInt 1)) := a_rq_ui hq
    have nz3 : tkk T n p ≠ 0 := by omega
    have le3 := tke_le nz3
    refine xq_run hq rfl rfl (go_q hq (rtp_f (S := rT) (L := gL) rr0.1 (fx_ui (fx_0) rfl) rfl (fun _ => rfl)) ((gx_k (by decide)).trans (rt.2.2.2.2.2 (by omega))) le3) ?_
    rintro v3 h3 ⟨rfl, g3, t3⟩
    have hq := fx_q g3 hq
    have rb3 := (rkk_k (T := T) (n := n) (p := tke T n p)).1
    have kb3 := tkk_lt (T := T) (n := n) (p := tke T n p) hT
    refine xq_n 296 [] [] [.int (Int32.ofInt 1)] h3 [] 3 hq rfl trivial (fun hq => ?_)
    have er : en T n p o fs = .inl (1, tke T n p, o, fs) := by
      unfold en
      rw [if_neg (fun e => e2 ((hh 2).mp e))]
      rw [if_neg (by rw [a2]; decide)]
      repeat (first | rw [if_pos (by omega)] | rw [if_neg (by omega)] | rw [if_pos b2] | rw [if_neg (by rw [b2]; decide)])
      try rfl
    have ev : ven T n p fs ((ov, av, su, w, nd) :: r) one = ((y, true, su, w, nd) :: r, one) := by
      rw [ven_c]
      rw [if_neg (fun e => e2 ((hh 2).mp e))]
      rw [if_neg (by rw [a2]; decide), yv]
      repeat (first | rw [if_pos (by omega)] | rw [if_neg (by omega)] | rw [if_pos b2] | rw [if_neg (by rw [b2]; decide)])
      try rfl
    rw [ev]
    refine xq_ret rfl rfl rfl (dQ_l er ?_ ((fx_i g3 rfl).trans ((gx_o (by decide)).trans (d45))))
    have dtl : dfr h3 sv fr r := (dfr_go s4 (dfr_39 s4 (dt)) g3)
    have q1 : xg 0 h3.2.1 41 (4096 * t + sv) = bl y := (fx_i g3 rfl).trans ((gx_o (by decide)).trans (d41))
    have q2 : xg 0 h3.2.1 42 (4096 * t + sv) = bl true := (fx_i g3 rfl).trans ((gx_o (by decide)).trans (d42))
    rw [hfs]
    subst ht
    exact ⟨fun z => absurd z e2, fun _ => ⟨q1, q2⟩, dtl⟩
  | false =>
    have db2 := of_decide_eq_false b2
    refine xq_n 299 [0, 1, 2] [(0, .ref 39), (1, .int (nI (4096 * t))), (2, .int (Int32.ofInt 0))] [] h [true] 5 hq rfl ⟨rfl, trivial⟩ (fun hq => ?_)
    exact eld_299 (hb := h) (ov := y) (one := one) s4 et t12 (d41) (fun f x h hq gi ge w45 => en_326d s4 hfs ht (dE5 s4 (dt) ge) hq gi wf hty (e47t gi) ty2 e2 a2 b2 w45 yv) f 0 _ hq (gi) fx_0 (by omega) (lp_0 _ (d45))
set_option maxRecDepth 100000 in
set_option maxHeartbeats 4000000 in
theorem en_202d {f p o ty : Nat} {fs : List Nat} {h0 h : xh_H} {x : Int32} {sv t : Nat} {fr : List Nat} {ov av one : Bool} {su w nd : Int32} {r : List vF} (s4 : sv < 4096) (hfs : fs = ty :: fr) (ht : fr.length = t) (dt : dfr h sv fr r) (hq : a_rq a_tb h) (gi : GI h0 h T n mem nn NW p o fs 0) (wf : wfs fs) (hty : fs.head? = some ty) (e47 : xg 0 h.2.1 47 (fs.length - 1) = nI ty) (ty2 : ty ≤ 2) (e2 : ty ≠ 2) (d45 : xg 0 h.2.1 45 sv = bl one) (d41 : xg 0 h.2.1 41 (4096 * t + sv) = bl ov) (d42 : xg 0 h.2.1 42 (4096 * t + sv) = bl (av && one)) : xq f xi_X10_end_ xmi_X10_end_ 202 [(0, .ref 39), (1, .int (nI (4096 * t))), (2, .int x)] [] h (fun v h' => dQ h' sv (en T n p o fs) (ven T n p fs ((ov, av, su, w, nd) :: r) one)) := by
  have rr0 := gi.2.1
  have g0 := gi.1
  have hT : ∀ k, k < n → T k < 256 := fun k hk' => (rr0.1.2.2 k hk').1
  have rt := rr0.2.1
  have rb := (rkk_k (T := T) (n := n) (p := p)).1
  have kb := tkk_lt (T := T) (n := n) (p := p) hT
  have o120 := rr0.2.2.2.2.2.2.1
  have f1 := rr0.2.2.2.2.2.2.2.2.1
  have n16 := rr0.2.2.2.2.1.2.1
  have f13 := rr0.2.2.2.2.2.2.2.2.2.1
  have n6 := rr0.1.2.1
  have hh : ∀ j, fs.head? = some j ↔ ty = j := fun j => by rw [hty]; exact ⟨fun e => Option.some.inj e, fun e => by rw [e]⟩
  have et : fs.length - 1 = t := by rw [hfs, ← ht]; rfl
  have t12 : t ≤ 12 := by omega
  have fl2 : ty ≠ 0 → 2 ≤ fs.length := fun e => by
    have w := wfs_t wf (fun e1 => e ((hh 0).mp e1))
    have w2 := wfs_n w
    cases hf : fs with
    | nil => rw [hf] at f1; exact absurd f1 (by decide)
    | cons a b =>
      cases b with
      | nil => rw [hf] at w2; exact absurd rfl w2
      | cons c d => simp only [List.length_cons]; omega
  have e47t : ∀ {h' : xh_H}, GI h0 h' T n mem nn NW p o fs 0 → xg 0 h'.2.1 47 (fs.length - 1) = nI ty := fun {h'} g => by
    have w := g.2.1.2.2.2.2.2.2.2.2.2.2.1
    cases hf : fs with
    | nil => rw [hf] at hty; cases hty
    | cons a b =>
      rw [hf] at w hty
      have hty : a = ty := Option.some.inj hty
      rw [← hty]
      exact w.1
  refine xq_n 203 [0, 1, 2] [(0, .ref 39), (1, .int (nI (4096 * t))), (2, .int x)] [.ref 39] h [] 3 hq rfl trivial (fun hq => ?_)
  refine xq_run hq rfl rfl (rw2_q hT (rt) hq) ?_
  rintro v1 h_v1 ⟨rfl, rfl⟩
  cases b2 : (ky T n p 2) with
  | true =>
    have db2 := of_decide_eq_true b2
    refine xq_n 215 [0, 1, 2] [(0, .ref 39), (1, .int (nI (4096 * t))), (2, .int x)] [.ref 39] (xh_ui h 39 29 (Int32.ofInt 1)) [false] 7 hq rfl ⟨rfl, trivial⟩ (fun _ => ?_)
    have hq : a_rq a_tb (xh_ui h 39 29 (Int32.ofInt 1)) := a_rq_ui hq
    have nz3 : tkk T n p ≠ 0 := by omega
    have le3 := tke_le nz3
    refine xq_run hq rfl rfl (go_q hq (rtp_f (S := rT) (L := gL) rr0.1 (fx_ui (fx_0) rfl) rfl (fun _ => rfl)) ((gx_k (by decide)).trans (rt.2.2.2.2.2 (by omega))) le3) ?_
    rintro v3 h3 ⟨rfl, g3, t3⟩
    have hq := fx_q g3 hq
    have rb3 := (rkk_k (T := T) (n := n) (p := tke T n p)).1
    have kb3 := tkk_lt (T := T) (n := n) (p := tke T n p) hT
    refine xq_n 219 [] [] [.int (Int32.ofInt 1)] h3 [] 3 hq rfl trivial (fun hq => ?_)
    have er : en T n p o fs = .inl (1, tke T n p, o, fs) := by
      unfold en
      rw [if_neg (fun e => e2 ((hh 2).mp e))]
      repeat (first | rw [if_pos (by omega)] | rw [if_neg (by omega)] | rw [if_pos b2] | rw [if_neg (by rw [b2]; decide)])
      try rfl
    have ev : ven T n p fs ((ov, av, su, w, nd) :: r) one = ((ov, av && one, su, w, nd) :: r, one) := by
      rw [ven_c]
      rw [if_neg (fun e => e2 ((hh 2).mp e))]
      repeat (first | rw [if_pos (by omega)] | rw [if_neg (by omega)] | rw [if_pos b2] | rw [if_neg (by rw [b2]; decide)])
      try rfl
    rw [ev]
    refine xq_ret rfl rfl rfl (dQ_l er ?_ ((fx_i g3 rfl).trans ((gx_o (by decide)).trans (d45))))
    have dtl : dfr h3 sv fr r := (dfr_go s4 (dfr_39 s4 (dt)) g3)
    have q1 : xg 0 h3.2.1 41 (4096 * t + sv) = bl ov := (fx_i g3 rfl).trans ((gx_o (by decide)).trans (d41))
    have q2 : xg 0 h3.2.1 42 (4096 * t + sv) = bl (av && one) := (fx_i g3 rfl).trans ((gx_o (by decide)).trans (d42))
    rw [hfs]
    subst ht
    exact ⟨fun z => absurd z e2, fun _ => ⟨q1, q2⟩, dtl⟩
  | false =>
    have db2 := of_decide_eq_false b2
    refine xq_n 222 [0, 1, 2] [(0, .ref 39), (1, .int (nI (4096 * t))), (2, .int (Int32.ofInt 0))] [] h [true] 5 hq rfl ⟨rfl, trivial⟩ (fun hq => ?_)
    exact eld_222 (hb := h) (ov := ov) (av := av && one) s4 et t12 (fun f x h hq gi ge w41 w42 => en_279d s4 hfs ht (dE1 s4 ht (dt) ge) hq gi wf hty (e47t gi) ty2 e2 b2 ((fx_i ge rfl).trans (d45)) w41 w42 rfl) f 0 _ hq (gi) fx_0 (by omega) (lp_0 _ (d41)) (lp_0 _ (d42))
set_option maxRecDepth 100000 in
set_option maxHeartbeats 4000000 in
/-- X10.end -/
theorem en_dd {f p o ty : Nat} {fs : List Nat} {h0 h : xh_H} {sv : Nat} {ds : List vF} {one : Bool} (s4 : sv < 4096) (dd : dfr h sv fs ds) (d45 : xg 0 h.2.1 45 sv = bl one) (hq : a_rq a_tb h) (gi : GI h0 h T n mem nn NW p o fs 0) (wf : wfs fs) (hty : fs.head? = some ty) (e47 : xg 0 h.2.1 47 (fs.length - 1) = nI ty) (ty2 : ty ≤ 2) : xq f xi_X10_end_ xmi_X10_end_ 0 [(0, .ref 39)] [] h (fun v h' => dQ h' sv (en T n p o fs) (ven T n p fs ds one)) := by
  have rr0 := gi.2.1
  have g0 := gi.1
  have hT : ∀ k, k < n → T k < 256 := fun k hk' => (rr0.1.2.2 k hk').1
  have rt := rr0.2.1
  have rb := (rkk_k (T := T) (n := n) (p := p)).1
  have kb := tkk_lt (T := T) (n := n) (p := p) hT
  have o120 := rr0.2.2.2.2.2.2.1
  have f1 := rr0.2.2.2.2.2.2.2.2.1
  have n16 := rr0.2.2.2.2.1.2.1
  have f13 := rr0.2.2.2.2.2.2.2.2.2.1
  have n6 := rr0.1.2.1
  have e47t : ∀ {h' : xh_H}, GI h0 h' T n mem nn NW p o fs 0 → xg 0 h'.2.1 47 (fs.length - 1) = nI ty := fun {h'} g => by
    have w := g.2.1.2.2.2.2.2.2.2.2.2.2.1
    cases hf : fs with
    | nil => rw [hf] at hty; cases hty
    | cons a b =>
      rw [hf] at w hty
      have hty : a = ty := Option.some.inj hty
      rw [← hty]
      exact w.1
  obtain ⟨fr, hfs⟩ : ∃ fr, fs = ty :: fr := by
    cases hf : fs with
    | nil => rw [hf] at hty; cases hty
    | cons a b => rw [hf] at hty; cases hty; exact ⟨b, rfl⟩
  rw [hfs] at dd
  cases ds with
  | nil => exact absurd dd (by unfold dfr; exact id)
  | cons y r =>
  obtain ⟨ov, av, su, w, nd⟩ := y
  obtain ⟨q2, q1, dt⟩ := dd
  obtain ⟨t, ht⟩ : ∃ t, fr.length = t := ⟨_, rfl⟩
  rw [ht] at q2 q1
  have et : fs.length - 1 = t := by rw [hfs, ← ht]; rfl
  have t12 : t ≤ 12 := by omega
  cases c1 : xe_c .ne (nI ty) (Int32.ofInt 2) with
  | true =>
    have z1 : ty ≠ 2 := nq_net (a := ty) (b := 2) (by omega) (by omega) c1
    refine xq_n 156 [0, 1, 2] [(0, .ref 39), (1, .int (4096 * (xg 0 h.2.1 39 28))), (2, .int (Int32.ofInt 0))] [] h [true] 16 hq rfl ⟨(show xe_c .ne (xg 0 h.2.1 47 ((xg 0 h.2.1 39 28).toNatClampNeg)) (Int32.ofInt 2) = true by rw [show (xg 0 h.2.1 47 ((xg 0 h.2.1 39 28).toNatClampNeg)) = (nI ty) from (by rw [show (xg 0 h.2.1 39 28) = (nI t) from (by rw [← et]; exact rr0.2.2.2.2.2.2.2.1), show ((nI t).toNatClampNeg) = t from nI_clamp (by omega)]; exact (by rw [← et]; exact e47))]; exact c1), trivial⟩ (fun hq => ?_)
    rw [show (xg 0 h.2.1 39 28) = (nI t) from (by rw [← et]; exact rr0.2.2.2.2.2.2.2.1)]
    rw [show (4096 * (nI t)) = nI (4096 * t) from (nI_mul2 4096 t).symm]
    exact eld_156 (hb := h) (av := av) s4 et t12 d45 (fun f x h hq gi ge w42 => en_202d s4 hfs ht (dE2 s4 ht dt ge) hq gi wf hty (e47t gi) ty2 (by omega) ((fx_i ge rfl).trans d45) ((fx_i ge rfl).trans (q1 (by omega)).1) w42) f 0 _ hq gi fx_0 (by omega) (lp_0 _ (q1 (by omega)).2)
  | false =>
    have z1 : ty = 2 := nq_nef (a := ty) (b := 2) (by omega) (by omega) c1
    refine xq_n 24 [0, 1, 2] [(0, .ref 39), (1, .int (4096 * (xg 0 h.2.1 39 28))), (2, .int (Int32.ofInt 0))] [] h [false] 16 hq rfl ⟨(show xe_c .ne (xg 0 h.2.1 47 ((xg 0 h.2.1 39 28).toNatClampNeg)) (Int32.ofInt 2) = false by rw [show (xg 0 h.2.1 47 ((xg 0 h.2.1 39 28).toNatClampNeg)) = (nI ty) from (by rw [show (xg 0 h.2.1 39 28) = (nI t) from (by rw [← et]; exact rr0.2.2.2.2.2.2.2.1), show ((nI t).toNatClampNeg) = t from nI_clamp (by omega)]; exact (by rw [← et]; exact e47))]; exact c1), trivial⟩ (fun hq => ?_)
    rw [show (xg 0 h.2.1 39 28) = (nI t) from (by rw [← et]; exact rr0.2.2.2.2.2.2.2.1)]
    rw [show (4096 * (nI t)) = nI (4096 * t) from (nI_mul2 4096 t).symm]
    exact eld_24 (hb := h) s4 et t12 d45 (q2 (by omega)).2.1 (fun f x h hq gi ge w46 => en_66d s4 hfs ht (dE6 s4 ht dt ge) hq gi wf hty (e47t gi) ty2 (by omega) ((fx_i ge rfl).trans d45) w46 ((fx_i ge rfl).trans (q2 (by omega)).2.2) rfl) f 0 _ hq gi fx_0 (by omega) (lp_0 _ (q2 (by omega)).1)
end XDE
end
section
section XDW
variable {T : Nat → Nat} {n mem nn : Nat} {NW : Nat → Nat}
theorem vis_d {sv : Nat} {NV : Nat → Bool} {aw p o : Nat} {x : List vF × Bool} : ∀ k, vis T n nn NW sv NV mem k (aw, p, o, []) x = x := by
  intro k
  induction k with
  | zero => rfl
  | succ k ih =>
    show (match stp T n mem nn NW (aw, p, o, []) with
      | .inl s' => vis T n nn NW sv NV mem k s' (vdt T n nn NW sv NV (aw, p, o, []) x)
      | .inr _ => x) = x
    rw [show stp T n mem nn NW (aw, p, o, []) = .inl (aw, p, o, []) from if_pos rfl, show vdt T n nn NW sv NV (aw, p, o, []) x = x from if_pos rfl]
    exact ih
set_option maxRecDepth 100000 in
set_option maxHeartbeats 4000000 in
/-- the reference's loop does what the automaton does -/
theorem rlp_d {h0 : xh_H} {sv : Nat} {NV : Nat → Bool} (s4 : sv < 4096) : ∀ (k f : Nat) (s : aSt) (x : List vF × Bool) (h : xh_H), (∃ aw p o, its T n mem nn NW k s = .inl (aw, p, o, [])) → lSt h0 h T n mem nn NW s → dfr h sv s.2.2.2 x.1 → xg 0 h.2.1 45 sv = bl x.2 → dnm h sv nn NV → a_rq a_tb h → xq f xi_X10_readRule xmi_X10_readRule 15 [(0, .ref 39)] [] h (fun v h' => xg 0 h'.2.1 45 sv = bl (vis T n nn NW sv NV mem k s x).2 ∧ dnm h' sv nn NV) := by
  intro k
  induction k with
  | zero =>
    intro f s x h he ls dd d45 dn hq
    obtain ⟨aw, p, o, e⟩ := he
    have e : s = (aw, p, o, []) := Sum.inl.inj e
    subst e
    exact absurd rfl (wfs_n ls.2.1)
  | succ k ih =>
    intro f s x h he ls dd d45 dn hq
    obtain ⟨aw, p, o, fs⟩ := s
    obtain ⟨x1, x2⟩ := x
    have dd : dfr h sv fs x1 := dd
    have d45 : xg 0 h.2.1 45 sv = bl x2 := d45
    have ev : vis T n nn NW sv NV mem (k + 1) (aw, p, o, fs) (x1, x2) = (match stp T n mem nn NW (aw, p, o, fs) with
      | .inl s' => vis T n nn NW sv NV mem k s' (vdt T n nn NW sv NV (aw, p, o, fs) (x1, x2))
      | .inr _ => (x1, x2)) := rfl
    obtain ⟨gi, wf, aw1⟩ := ls
    have gi : GI h0 h T n mem nn NW p o fs aw := gi
    have wf : wfs fs := wf
    have aw1 : aw ≤ 1 := aw1
    have es : its T n mem nn NW (k + 1) (aw, p, o, fs) = (match stp T n mem nn NW (aw, p, o, fs) with
      | .inl s' => its T n mem nn NW k s'
      | .inr e => .inr e) := rfl
    rw [stp_n (s := (aw, p, o, fs)) (wfs_n wf)] at es ev
    have hd : vdt T n nn NW sv NV (aw, p, o, fs) (x1, x2) = if aw = 1 then vbg T n nn NW sv NV p fs x1 x2 else ven T n p fs x1 x2 := if_neg (wfs_n wf)
    rw [hd] at ev
    obtain ⟨ty, hty, e47, ty2⟩ := frs_h gi.2.1.2.2.2.2.2.2.2.2.2.2.1 wf
    have e30 := gi.2.2.2
    have e29 := gi.2.2.1
    by_cases ha : aw = 1
    · subst ha
      have es : its T n mem nn NW (k + 1) (1, p, o, fs) = (match bg T n mem nn NW p o fs with
        | .inl s' => its T n mem nn NW k s'
        | .inr e => .inr e) := es
      have ev : vis T n nn NW sv NV mem (k + 1) (1, p, o, fs) (x1, x2) = (match bg T n mem nn NW p o fs with
        | .inl s' => vis T n nn NW sv NV mem k s' (vbg T n nn NW sv NV p fs x1 x2)
        | .inr _ => (x1, x2)) := ev
      refine xq_n 30 [0] [(0, .ref 39)] [.ref 39] h [false, false] 9 hq rfl ⟨(show xe_c .ne (xg 0 h.2.1 39 30) 0 = false by rw [e30]; rfl), (show xe_c .eq (xg 0 h.2.1 39 29) 0 = false by rw [e29]; rfl), trivial⟩ (fun hq => ?_)
      refine xq_run hq rfl rfl (xq_and (bg_q gi.2.1 hty e47 ty2 hq) (bg_d s4 dd d45 dn gi.2.1 hty e47 ty2 hq)) ?_
      rintro v h1 ⟨⟨g1, q1, q2⟩, qd⟩
      have dn1 : dnm h1 sv nn NV := dnm_f dn g1 (fun _ => rfl)
      have hq := fx_q g1 hq
      have gt : fx rT gL h0 h1 := fx_t gi.1 (fx_w g1 (fun _ _ z => rS_t z) (fun _ _ z => z))
      cases hr : bg T n mem nn NW p o fs with
      | inl s' =>
        obtain ⟨aw', p', o', fs'⟩ := s'
        obtain ⟨rfl, r1, r2⟩ := q1 _ _ _ _ hr
        rw [hr] at es
        have es : its T n mem nn NW (k + 1) (1, p, o, fs) = its T n mem nn NW k (aw', p', o', fs') := es
        rw [es] at he
        rw [hr] at ev
        have ev : vis T n nn NW sv NV mem (k + 1) (1, p, o, fs) (x1, x2) = vis T n nn NW sv NV mem k (aw', p', o', fs') (vbg T n nn NW sv NV p fs x1 x2) := ev
        rw [ev]
        obtain ⟨e1, e2⟩ := qd _ _ _ _ hr
        refine xq_n 15 [0] [(0, .ref 39)] [] h1 [false] 4 hq rfl ⟨rfl, trivial⟩ (fun hq => ?_)
        obtain ⟨w1, w2⟩ := bg_w wf hr
        exact ih f _ _ h1 he ⟨⟨gt, r1, r2, (fx_i g1 rfl).trans e30⟩, w1, w2⟩ e1 e2 dn1 hq
      | inr e =>
        rw [hr] at es
        obtain ⟨_, _, _, he⟩ := he
        rw [es] at he
        cases he
    · have ha0 : aw = 0 := by omega
      subst ha0
      have es : its T n mem nn NW (k + 1) (0, p, o, fs) = (match en T n p o fs with
        | .inl s' => its T n mem nn NW k s'
        | .inr e => .inr e) := es
      have ev : vis T n nn NW sv NV mem (k + 1) (0, p, o, fs) (x1, x2) = (match en T n p o fs with
        | .inl s' => vis T n nn NW sv NV mem k s' (ven T n p fs x1 x2)
        | .inr _ => (x1, x2)) := ev
      refine xq_n 40 [0] [(0, .ref 39)] [.ref 39] h [false, true] 9 hq rfl ⟨(show xe_c .ne (xg 0 h.2.1 39 30) 0 = false by rw [e30]; rfl), (show xe_c .eq (xg 0 h.2.1 39 29) 0 = true by rw [e29]; rfl), trivial⟩ (fun hq => ?_)
      refine xq_run hq rfl rfl (xq_and (xq_and (en_q hq gi wf hty e47 ty2) (en_q (h0 := h) hq ⟨fx_0, gi.2⟩ wf hty e47 ty2)) (en_dd s4 dd d45 hq gi wf hty e47 ty2)) ?_
      rintro v h1 ⟨⟨⟨g1, q1, q2, q3⟩, g1', -⟩, qd⟩
      have dn1 : dnm h1 sv nn NV := dnm_f dn g1' (fun _ => rfl)
      have hq : a_rq a_tb h1 := fx_q (fx_t (fx_0 (S := rT) (L := gL)) g1) (a_rq_h0 gi.1 hq)
      cases hr : en T n p o fs with
      | inl s' =>
        obtain ⟨aw', p', o', fs'⟩ := s'
        rw [hr] at es
        have es : its T n mem nn NW (k + 1) (0, p, o, fs) = its T n mem nn NW k (aw', p', o', fs') := es
        rw [hr] at ev
        have ev : vis T n nn NW sv NV mem (k + 1) (0, p, o, fs) (x1, x2) = vis T n nn NW sv NV mem k (aw', p', o', fs') (ven T n p fs x1 x2) := ev
        rw [ev]
        obtain ⟨e1, e2⟩ := qd _ _ _ _ hr
        by_cases hn : fs' = []
        · subst hn
          rw [vis_d]
          obtain ⟨rfl, r1, r2⟩ := q2 _ _ _ hr
          have ep : p' = tke T n p ∧ o' = o ∧ tkk T n p = 59 := en_e wf hr
          refine xq_n 15 [0] [(0, .ref 39)] [] h1 [true] 3 hq rfl ⟨rfl, trivial⟩ (fun hq => ?_)
          refine xq_n 49 [0] [(0, .ref 39)] [.ref 39] h1 [true] 6 hq rfl ⟨(show xe_c .ne (xg 0 h1.2.1 39 30) 0 = true by rw [r1]; rfl), trivial⟩ (fun hq => ?_)
          obtain ⟨s1, s2, s3, s4, s5, s6, s7, s8⟩ := r2
          have nz : tkk T n p ≠ 0 := by omega
          refine xq_run hq rfl rfl (go_q hq s1 (s2.2.2.2.2.2 nz) (tke_le nz)) ?_
          rintro v h2 ⟨rfl, g2, t2⟩
          have hq := fx_q g2 hq
          refine xq_n 53 [] [] [.int (Int32.ofInt 1)] h2 [] 3 hq rfl trivial (fun hq => ?_)
          exact xq_ret rfl rfl rfl ⟨(fx_i g2 rfl).trans e2, dnm_f dn1 g2 (fun _ => rfl)⟩
        · obtain ⟨rfl, r1, r2, r3⟩ := q1 _ _ _ _ hr hn
          rw [es] at he
          refine xq_n 15 [0] [(0, .ref 39)] [] h1 [true] 3 hq rfl ⟨rfl, trivial⟩ (fun hq => ?_)
          obtain ⟨w1, w2⟩ := en_w wf hr hn
          exact ih f _ _ h1 he ⟨⟨g1, r1, r2, r3⟩, w1, w2⟩ e1 e2 dn1 hq
      | inr e =>
        rw [hr] at es
        obtain ⟨_, _, _, he⟩ := he
        rw [es] at he
        cases he
set_option maxRecDepth 100000 in
set_option maxHeartbeats 4000000 in
/-- X10.readRule -/
theorem rrl_d {f p o p' o' sv : Nat} {NV : Nat → Bool} {y one0 : Bool} {h : xh_H} (hs : sv < 4096) (hR : ∀ one, Rv T n nn NW sv NV mem (1, tke T n p, o, [0]) ([vR], one) (0, p', o', []) ([], y)) (dn : dnm h sv nn NV) (d45 : xg 0 h.2.1 45 sv = bl one0) (r0 : rq0 h T n mem nn NW p o) (nz : tkk T n p ≠ 0) (hq : a_rq a_tb h) : xq f xi_X10_readRule xmi_X10_readRule 0 [(0, .ref 39)] [] h (fun v h' => xg 0 h'.2.1 45 sv = bl y ∧ dnm h' sv nn NV) := by
  obtain ⟨s1, s2, s3, s4, s5, s6, s7, s8⟩ := r0
  refine xq_n 12 [0] [(0, .ref 39)] [.int (Int32.ofInt 0), .ref 39] (xh_ui (xh_ui h 39 28 (Int32.ofInt 0)) 39 30 (Int32.ofInt 0)) [] 10 hq rfl trivial (fun _ => ?_)
  have hq : a_rq a_tb (xh_ui (xh_ui h 39 28 (Int32.ofInt 0)) 39 30 (Int32.ofInt 0)) := a_rq_ui (a_rq_ui hq)
  have g1 : fx rT gL h (xh_ui (xh_ui h 39 28 (Int32.ofInt 0)) 39 30 (Int32.ofInt 0)) := fx_ui (fx_ui fx_0 rfl) rfl
  refine xq_run hq rfl rfl (xq_and (opr_q (t := 0) (ty := 0) (e := tke T n p) (by decide) (tke_le nz) hq (rtp_f s1 g1 rfl (fun _ => rfl)) ((gx_k (by decide)).trans ((gx_k (by decide)).trans (s2.2.2.2.2.2 nz))) ((gx_k (by decide)).trans gx_s)) (opr_d (t := 0) (e := tke T n p) hs (by decide) (tke_le nz) hq (rtp_f s1 g1 rfl (fun _ => rfl)) ((gx_k (by decide)).trans ((gx_k (by decide)).trans (s2.2.2.2.2.2 nz))) ((gx_k (by decide)).trans gx_s))) ?_
  rintro v h2 ⟨⟨rfl, g2, t2, y2, a2⟩, dg2, k1, k2⟩
  have hq := fx_q g2 hq
  have g3 : fx rT gL h h2 := fx_t g1 (fx_w g2 (fun _ _ z => oS_r (rS_t z)) (fun _ _ z => z))
  have hrr : rr h2 T n mem nn NW (tke T n p) o [0] := ⟨rtp_f s1 g3 rfl (fun _ => rfl), t2, (fx_i g3 rfl).trans s3, s4, nms_f s5 g3 rfl (fun _ => rfl), (fx_i g2 rfl).trans ((gx_k (by decide)).trans ((gx_k (by decide)).trans s6)), s7, (fx_i g2 rfl).trans ((gx_k (by decide)).trans gx_s), by decide, by decide, ⟨y2, by decide, trivial⟩, (fx_i g2 rfl).trans ((gx_k (by decide)).trans ((gx_k (by decide)).trans s8))⟩
  have hls : lSt h h2 T n mem nn NW (1, tke T n p, o, [0]) := ⟨⟨g3, hrr, a2, (fx_i g2 rfl).trans gx_s⟩, rfl, Nat.le_refl _⟩
  obtain ⟨j, hj, hv⟩ := hR one0
  have dd : dfr h2 sv [0] [vR] := ⟨fun z => absurd z (by decide), fun _ => ⟨k1, k2⟩, trivial⟩
  have e45 : xg 0 h2.2.1 45 sv = bl one0 := (fx_i dg2 rfl).trans ((gx_o (by decide)).trans ((gx_o (by decide)).trans d45))
  refine xq_mono (rlp_d hs j f _ ([vR], one0) h2 ⟨0, p', o', hj⟩ hls dd e45 (dnm_f dn g3 (fun _ => rfl)) hq) (fun v h' e => ?_)
  rw [hv] at e
  exact e
def F43 (m c k : Nat) : Bool := Nat.beq c 43 && Nat.ble (4096 * m) k
def F44 (m c k : Nat) : Bool := Nat.beq c 44 && Nat.ble (4096 * m) k
set_option maxRecDepth 100000 in
set_option maxHeartbeats 4000000 in
theorem bld_91 {hb : xh_H} {sv nn : Nat} {z45 z : Int32} {Q : Option Value → xh_H → Prop} (s4 : sv < 4096) (m16 : nn ≤ 16) (eb : xg 0 hb.2.1 39 26 = nI nn) (b45 : xg 0 hb.2.1 45 sv = z45) (K : ∀ (f : Nat) (x : Int32) (h : xh_H), a_rq a_tb h → fx (F43 nn) fN hb h → xg 0 h.2.1 43 (4096 * nn + sv) = vp_nar .boolean z45 → xq f xi_X10_readBody xmi_X10_readBody 125 [(0, .ref 39), (3, .int x)] [] h Q) : ∀ (f i : Nat) (h : xh_H), a_rq a_tb h → fx (F43 nn) fN hb h → i ≤ 4096 → xg 0 h.2.1 43 (4096 * nn + sv) = (if sv < i then vp_nar .boolean z45 else z) → xq f xi_X10_readBody xmi_X10_readBody 91 [(0, .ref 39), (3, .int (nI i))] [] h Q := by
  intro f
  induction f with
  | zero => intros; exact xq_0
  | succ f ih =>
    intro i h hq ge i6 w
    cases c1 : xe_c .ge (nI i) 4096 with
    | true =>
      have z1 : i ≥ 4096 := nq_get (a := i) (b := 4096) (by omega) (by omega) c1
      refine xq_m 125 [0, 3] [(0, .ref 39), (3, .int (nI i))] [] h [true] 5 hq rfl ⟨c1, trivial⟩ (fun hq => ?_)
      exact K f _ _ hq ge (lp_1 w (by omega))
    | false =>
      have z1 : i < 4096 := nq_gef (a := i) (b := 4096) (by omega) (by omega) c1
      refine xq_m 91 [0, 3] [(0, .ref 39), (3, .int ((nI i) + Int32.ofInt 1))] [] (xh_ui h 43 (((4096 * (xg 0 h.2.1 39 26)) + (nI i)).toNatClampNeg) (vp_nar .boolean (xg 0 h.2.1 45 ((nI i).toNatClampNeg)))) [false] 20 hq rfl ⟨c1, trivial⟩ (fun _ => ?_)
      rw [show (xg 0 h.2.1 45 ((nI i).toNatClampNeg)) = xg 0 h.2.1 45 i from (by rw [show ((nI i).toNatClampNeg) = i from nI_clamp (by omega)])]
      rw [show (xg 0 h.2.1 39 26) = (nI nn) from ((fx_i ge rfl).trans eb)]
      rw [show ((4096 * (nI nn)) + (nI i)) = nI (4096 * nn + i) from idx_a]
      rw [show ((nI (4096 * nn + i)).toNatClampNeg) = (4096 * nn + i) from nI_clamp (by omega)]
      rw [show ((nI i) + Int32.ofInt 1) = nI (i + 1) from nI_1 _]
      have hq : a_rq a_tb (xh_ui h 43 (4096 * nn + i) (vp_nar .boolean (xg 0 h.2.1 45 i))) := a_rq_ui hq
      exact ih (i + 1) _ hq (fx_ui ge (ble_t (by omega))) (by omega) (lp_w w (fun e => by rw [e, show xg 0 h.2.1 45 sv = z45 from (fx_i ge rfl).trans b45]))
set_option maxRecDepth 100000 in
set_option maxHeartbeats 4000000 in
theorem sld_141 {hb : xh_H} {sv sc : Nat} {fd z45 z : Int32} {Q : Option Value → xh_H → Prop} (s4 : sv < 4096) (m16 : sc ≤ 16) (eb : xg 0 hb.2.1 39 33 = nI sc) (b45 : xg 0 hb.2.1 45 sv = z45) (K : ∀ (f : Nat) (x : Int32) (h : xh_H), a_rq a_tb h → fx (F44 sc) fN hb h → xg 0 h.2.1 44 (4096 * sc + sv) = vp_nar .boolean z45 → xq f xi_X10_statute xmi_X10_statute 175 [(0, .ref 39), (1, .int fd), (3, .int x)] [] h Q) : ∀ (f i : Nat) (h : xh_H), a_rq a_tb h → fx (F44 sc) fN hb h → i ≤ 4096 → xg 0 h.2.1 44 (4096 * sc + sv) = (if sv < i then vp_nar .boolean z45 else z) → xq f xi_X10_statute xmi_X10_statute 141 [(0, .ref 39), (1, .int fd), (3, .int (nI i))] [] h Q := by
  intro f
  induction f with
  | zero => intros; exact xq_0
  | succ f ih =>
    intro i h hq ge i6 w
    cases c1 : xe_c .ge (nI i) 4096 with
    | true =>
      have z1 : i ≥ 4096 := nq_get (a := i) (b := 4096) (by omega) (by omega) c1
      refine xq_m 175 [0, 1, 3] [(0, .ref 39), (1, .int fd), (3, .int (nI i))] [] h [true] 5 hq rfl ⟨c1, trivial⟩ (fun hq => ?_)
      exact K f _ _ hq ge (lp_1 w (by omega))
    | false =>
      have z1 : i < 4096 := nq_gef (a := i) (b := 4096) (by omega) (by omega) c1
      refine xq_m 141 [0, 1, 3] [(0, .ref 39), (1, .int fd), (3, .int ((nI i) + Int32.ofInt 1))] [] (xh_ui h 44 (((4096 * (xg 0 h.2.1 39 33)) + (nI i)).toNatClampNeg) (vp_nar .boolean (xg 0 h.2.1 45 ((nI i).toNatClampNeg)))) [false] 20 hq rfl ⟨c1, trivial⟩ (fun _ => ?_)
      rw [show (xg 0 h.2.1 45 ((nI i).toNatClampNeg)) = xg 0 h.2.1 45 i from (by rw [show ((nI i).toNatClampNeg) = i from nI_clamp (by omega)])]
      rw [show (xg 0 h.2.1 39 33) = (nI sc) from ((fx_i ge rfl).trans eb)]
      rw [show ((4096 * (nI sc)) + (nI i)) = nI (4096 * sc + i) from idx_a]
      rw [show ((nI (4096 * sc + i)).toNatClampNeg) = (4096 * sc + i) from nI_clamp (by omega)]
      rw [show ((nI i) + Int32.ofInt 1) = nI (i + 1) from nI_1 _]
      have hq : a_rq a_tb (xh_ui h 44 (4096 * sc + i) (vp_nar .boolean (xg 0 h.2.1 45 i))) := a_rq_ui hq
      exact ih (i + 1) _ hq (fx_ui ge (ble_t (by omega))) (by omega) (lp_w w (fun e => by rw [e, show xg 0 h.2.1 45 sv = z45 from (fx_i ge rfl).trans b45]))
set_option maxRecDepth 100000 in
set_option maxHeartbeats 4000000 in
/-- X10.readBody -/
theorem rbd_d {f p o p' o' sv : Nat} {NV : Nat → Bool} {y one0 : Bool} {h : xh_H} (s4 : sv < 4096) (kn : nmt T n (tke T n p) = true) (hn' : hasn nn NW (tkw T n (tke T n p)) = false) (n15 : nn < 16) (k58 : tkk T n (tke T n (tke T n p)) = 58) (hR : ∀ one, Rv T n nn NW sv NV mem (1, tke T n (tke T n (tke T n p)), o, [0]) ([vR], one) (0, p', o', []) ([], y)) (dn : dnm h sv nn NV) (d45 : xg 0 h.2.1 45 sv = bl one0) (r0 : rq0 h T n mem nn NW p o) (nz : tkk T n p ≠ 0) (hq : a_rq a_tb h) : xq f xi_X10_readBody xmi_X10_readBody 0 [(0, .ref 39)] [] h (fun v h' => xg 0 h'.2.1 45 sv = bl y ∧ dnm h' sv (nn + 1) (upB NV nn y)) := by
  have hT : ∀ k, k < n → T k < 256 := fun k hk' => (r0.1.2.2 k hk').1
  have rt := r0.2.1
  have kb := tkk_lt (T := T) (n := n) (p := p) hT
  have n16 := r0.2.2.2.2.1.2.1
  have n6 := r0.1.2.1
  have o120 := r0.2.2.2.2.2.2.1
  have dkn := of_decide_eq_true kn
  have k58b : decide (tkk T n (tke T n (tke T n p)) = 58) = true := decide_eq_true k58
  refine xq_n 1 [0] [(0, .ref 39)] [.ref 39] h [] 3 hq rfl trivial (fun hq => ?_)
  have nz1 : tkk T n p ≠ 0 := by omega
  have le1 := tke_le nz1
  refine xq_run hq rfl rfl (go_q hq (r0.1) (rt.2.2.2.2.2 (by omega)) le1) ?_
  rintro v1 h1 ⟨rfl, g1, t1⟩
  have hq := fx_q g1 hq
  have rb1 := (rkk_k (T := T) (n := n) (p := tke T n p)).1
  have kb1 := tkk_lt (T := T) (n := n) (p := tke T n p) hT
  refine xq_n 5 [0] [(0, .ref 39)] [.ref 39] h1 [] 3 hq rfl trivial (fun hq => ?_)
  refine xq_run hq rfl rfl (rnm_q hT (t1) hq) ?_
  rintro v2 h_v2 ⟨rfl, rfl⟩
  refine xq_n 18 [0] [(0, .ref 39)] [.ref 39] h1 [true] 4 hq rfl ⟨(show xe_c .ne (bl (nmt T n (tke T n p))) 0 = true by rw [kn]; rfl), trivial⟩ (fun hq => ?_)
  refine xq_run hq rfl rfl (nh_q (nms_f (S := rT) (L := gL) r0.2.2.2.2.1 (fx_t (fx_0) (fx_w g1 (fun _ _ z => gS_r (rS_t z)) (fun _ _ z => z))) rfl (fun _ => rfl)) ((t1.2.2.1 (by omega)).2) (tkw_lt (by omega)) hq) ?_
  rintro v3 h_3 ⟨rfl, ⟨rfl, -⟩ | ⟨kk3, kl3, rfl, -, hn3⟩⟩
  · skip
    cases c4 : xe_c .ne (nI nn) 16 with
    | true =>
      have z4 : nn ≠ 16 := nq_net (a := nn) (b := 16) (by omega) (by omega) c4
      refine xq_n 52 [0, 1] [(0, .ref 39), (1, .long (xg 0 h1.2.2.1 39 15))] [.ref 39] h1 [true, true] 12 hq rfl ⟨(by decide), (show xe_c .ne (xg 0 h1.2.1 39 26) 16 = true by rw [show (xg 0 h1.2.1 39 26) = (nI nn) from (fx_i g1 rfl).trans (r0.2.2.2.2.1.1)]; exact c4), trivial⟩ (fun hq => ?_)
      rw [show (xg 0 h1.2.2.1 39 15) = (Int64.ofNat (tkw T n (tke T n p))) from (t1.2.2.1 (by omega)).2]
      have nz5 : tkk T n (tke T n p) ≠ 0 := by omega
      have le5 := tke_le nz5
      refine xq_run hq rfl rfl (go_q hq (rtp_f (S := rT) (L := gL) r0.1 (fx_t (fx_0) (fx_w g1 (fun _ _ z => gS_r (rS_t z)) (fun _ _ z => z))) rfl (fun _ => rfl)) (t1.2.2.2.2.2 (by omega)) le5) ?_
      rintro v5 h5 ⟨rfl, g5, t5⟩
      have hq := fx_q g5 hq
      have rb5 := (rkk_k (T := T) (n := n) (p := tke T n (tke T n p))).1
      have kb5 := tkk_lt (T := T) (n := n) (p := tke T n (tke T n p)) hT
      refine xq_n 58 [0, 1] [(0, .ref 39), (1, .long (Int64.ofNat (tkw T n (tke T n p))))] [.int 58, .ref 39] h5 [] 4 hq rfl trivial (fun hq => ?_)
      refine xq_run hq rfl rfl (rsg_q (c := 58) (by decide) (by decide) hT (t5) hq) ?_
      rintro v6 h_v6 ⟨rfl, rfl⟩
      refine xq_n 71 [0, 1] [(0, .ref 39), (1, .long (Int64.ofNat (tkw T n (tke T n p))))] [.ref 39] h5 [true] 4 hq rfl ⟨(show xe_c .ne (bl (decide (tkk T n (tke T n (tke T n p)) = 58))) 0 = true by rw [k58b]; rfl), trivial⟩ (fun hq => ?_)
      have gA : fx rT gL h h5 := fx_t (fx_t (fx_0) (fx_w g1 (fun _ _ z => gS_r (rS_t z)) (fun _ _ z => z))) (fx_w g5 (fun _ _ z => gS_r (rS_t z)) (fun _ _ z => z))
      have r1 : rq0 h5 T n mem nn NW (tke T n (tke T n p)) o := ⟨rtp_f (S := rT) (L := gL) r0.1 (fx_t (fx_t (fx_0) (fx_w g1 (fun _ _ z => gS_r (rS_t z)) (fun _ _ z => z))) (fx_w g5 (fun _ _ z => gS_r (rS_t z)) (fun _ _ z => z))) rfl (fun _ => rfl), t5, (fx_i g5 rfl).trans ((fx_i g1 rfl).trans (r0.2.2.1)), r0.2.2.2.1, nms_f (S := rT) (L := gL) r0.2.2.2.2.1 (fx_t (fx_t (fx_0) (fx_w g1 (fun _ _ z => gS_r (rS_t z)) (fun _ _ z => z))) (fx_w g5 (fun _ _ z => gS_r (rS_t z)) (fun _ _ z => z))) rfl (fun _ => rfl), (fx_i g5 rfl).trans ((fx_i g1 rfl).trans (r0.2.2.2.2.2.1)), r0.2.2.2.2.2.2.1, (fx_i g5 rfl).trans ((fx_i g1 rfl).trans (r0.2.2.2.2.2.2.2))⟩
      refine xq_run hq rfl rfl (xq_and (rrl_q (Or.inr ⟨p', o', rfl, Rv_c (hR true)⟩) r1 (by omega) hq) (rrl_d (one0 := one0) s4 hR (dnm_f dn gA (fun _ => rfl)) ((fx_i g5 rfl).trans ((fx_i g1 rfl).trans (d45))) r1 (by omega) hq)) ?_
      rintro v h9 ⟨⟨g9, q1, q2⟩, k45, dn9⟩
      have hq := fx_q g9 hq
      obtain ⟨rfl, r9⟩ := q1 _ _ rfl
      have e26 := r9.2.2.2.2.1.1
      refine xq_n 91 [0, 3] [(0, .ref 39), (3, .int (Int32.ofInt 0))] [] (xh_ul h9 50 (xg 0 h9.2.1 39 26).toNatClampNeg (Int64.ofNat (tkw T n (tke T n p)))) [true] 11 hq rfl ⟨rfl, trivial⟩ (fun _ => ?_)
      rw [e26, show (nI nn).toNatClampNeg = nn from nI_clamp (by omega)]
      have hq : a_rq a_tb (xh_ul h9 50 nn (Int64.ofNat (tkw T n (tke T n p)))) := a_rq_ul hq
      refine bld_91 (hb := xh_ul h9 50 nn (Int64.ofNat (tkw T n (tke T n p)))) s4 (by omega) e26 k45 (fun f x h3 hq g3 w3 => ?_) f 0 _ hq fx_0 (by omega) (lp_0 _ rfl)
      refine xq_n 136 [] [] [.int (Int32.ofInt 1)] (xh_ui h3 39 26 ((xg 0 h3.2.1 39 26) + (Int32.ofInt 1))) [] 9 hq rfl trivial (fun _ => ?_)
      refine xq_ret rfl rfl rfl ⟨(gx_o (by decide)).trans ((fx_i g3 rfl).trans k45), fun k hk' => ?_⟩
      unfold upB
      rw [gx_o (by decide)]
      by_cases ek : k = nn
      · rw [if_pos ek, ek, w3]; exact bl_n
      · rw [if_neg ek]; exact (fx_i (c := 43) (k := 4096 * k + sv) g3 (show Nat.ble (4096 * nn) (4096 * k + sv) = false from ble_n (by omega))).trans (dn9 k (by omega))
    | false =>
      have z4 : nn = 16 := nq_nef (a := nn) (b := 16) (by omega) (by omega) c4
      omega
  · rw [hn'] at hn3; cases hn3
def rW2 (sc c k : Nat) : Bool := rU c k || ((Nat.beq c 39 && Nat.beq k 33) || ((Nat.beq c 44 && Nat.ble (4096 * sc) k) || ((Nat.beq c 51 || Nat.beq c 52) && Nat.beq k sc)))
theorem rU_w2 {sc c k : Nat} (h : rW2 sc c k = false) : rU c k = false := (or_f h).1
theorem F44_w {sc c k : Nat} (h : rW2 sc c k = false) : F44 sc c k = false := (or_f (or_f (or_f h).2).2).1
theorem rW2_1 {sc : Nat} : rW2 sc 51 sc = true := by
  show Nat.beq sc sc = true
  exact Nat.beq_refl sc
theorem rW2_2 {sc : Nat} : rW2 sc 52 sc = true := by
  show Nat.beq sc sc = true
  exact Nat.beq_refl sc
def st_Q2 (h0 : xh_H) (sc : Nat) (fd : Int32) (r : Sum Nat (Nat × Nat)) (v : Option Value) (h' : xh_H) : Prop := fx (rW2 sc) rV h0 h' ∧ (∀ m, r = .inl m → xg 0 h'.2.1 39 33 = nI (sc + 1) ∧ xg 0 h'.2.1 51 sc = fd ∧ xg 0 h'.2.1 52 sc = xg 0 h0.2.1 39 3) ∧ ∀ k pl, r = .inr (k, pl) → xg 0 h'.2.1 39 33 = nI sc
set_option maxRecDepth 100000 in
set_option maxHeartbeats 4000000 in
/-- the text is accepted -/
theorem st_ok2 {f sc m sv : Nat} {fd z45 : Int32} {h0 h : xh_H} (s4 : sv < 4096) (hq : a_rq a_tb h) (g0 : fx rU rV h0 h) (e33 : xg 0 h.2.1 39 33 = nI sc) (sc8 : sc < 8) (b45 : xg 0 h.2.1 45 sv = z45) : xq f xi_X10_statute xmi_X10_statute 139 [(0, .ref 39), (1, .int fd)] [] h (fun v h' => st_Q2 h0 sc fd (.inl m) v h' ∧ xg 0 h'.2.1 44 (4096 * sc + sv) = vp_nar .boolean z45) := by
  refine xq_n 141 [0, 1, 3] [(0, .ref 39), (1, .int fd), (3, .int (Int32.ofInt 0))] [] h [] 4 hq rfl trivial (fun hq => ?_)
  refine sld_141 (hb := h) s4 (by omega) e33 b45 (fun f x h1 hq g1 w44 => ?_) f 0 _ hq fx_0 (by omega) (lp_0 _ rfl)
  have f33 : xg 0 h1.2.1 39 33 = nI sc := (fx_i g1 rfl).trans e33
  have f3 : xg 0 h1.2.1 39 3 = xg 0 h0.2.1 39 3 := (fx_i g1 rfl).trans (fx_i g0 rfl)
  refine xq_n 185 [0] [(0, .ref 39)] [] (xh_ui h1 51 (xg 0 h1.2.1 39 33).toNatClampNeg fd) [] 8 hq rfl trivial (fun _ => ?_)
  rw [f33, show (nI sc).toNatClampNeg = sc from nI_clamp (by omega)]
  have hq : a_rq a_tb (xh_ui h1 51 sc fd) := a_rq_ui hq
  have d33 : xg 0 (xh_ui h1 51 sc fd).2.1 39 33 = nI sc := (gx_o (by decide)).trans f33
  have d3 : xg 0 (xh_ui h1 51 sc fd).2.1 39 3 = xg 0 h0.2.1 39 3 := (gx_o (by decide)).trans f3
  have d51 : xg 0 (xh_ui h1 51 sc fd).2.1 51 sc = fd := gx_s
  have d44 : xg 0 (xh_ui h1 51 sc fd).2.1 44 (4096 * sc + sv) = vp_nar .boolean z45 := (gx_o (by decide)).trans w44
  have g2 : fx (rW2 sc) rV h0 (xh_ui h1 51 sc fd) := fx_ui (fx_t (fx_w g0 (fun _ _ => rU_w2) (fun _ _ z => z)) (fx_w g1 (fun c k z => F44_w z) (fun _ _ _ => rfl))) rW2_1
  generalize xh_ui h1 51 sc fd = h2 at hq d33 d3 d51 d44 g2 ⊢
  refine xq_n 198 [0] [(0, .ref 39)] [] (xh_ui h2 52 (xg 0 h2.2.1 39 33).toNatClampNeg (xg 0 h2.2.1 39 3)) [] 9 hq rfl trivial (fun _ => ?_)
  rw [d33, d3, show (nI sc).toNatClampNeg = sc from nI_clamp (by omega)]
  have hq : a_rq a_tb (xh_ui h2 52 sc (xg 0 h0.2.1 39 3)) := a_rq_ui hq
  have c33 : xg 0 (xh_ui h2 52 sc (xg 0 h0.2.1 39 3)).2.1 39 33 = nI sc := (gx_o (by decide)).trans d33
  have c51 : xg 0 (xh_ui h2 52 sc (xg 0 h0.2.1 39 3)).2.1 51 sc = fd := (gx_o (by decide)).trans d51
  have c52 : xg 0 (xh_ui h2 52 sc (xg 0 h0.2.1 39 3)).2.1 52 sc = xg 0 h0.2.1 39 3 := gx_s
  have c44 : xg 0 (xh_ui h2 52 sc (xg 0 h0.2.1 39 3)).2.1 44 (4096 * sc + sv) = vp_nar .boolean z45 := (gx_o (by decide)).trans d44
  have g3 : fx (rW2 sc) rV h0 (xh_ui h2 52 sc (xg 0 h0.2.1 39 3)) := fx_ui g2 rW2_2
  generalize xh_ui h2 52 sc (xg 0 h0.2.1 39 3) = h3 at hq c33 c51 c52 c44 g3 ⊢
  refine xq_n 212 [] [] [.int (xg 0 (xh_ui h3 39 33 ((xg 0 h3.2.1 39 33) + (Int32.ofInt 1))).2.1 39 26)] (xh_ui h3 39 33 ((xg 0 h3.2.1 39 33) + (Int32.ofInt 1))) [] 11 hq rfl trivial (fun _ => ?_)
  rw [c33, show nI sc + Int32.ofInt 1 = nI (sc + 1) from nI_1 _]
  refine xq_ret rfl rfl rfl ⟨⟨fx_ui g3 rfl, fun _ _ => ⟨gx_s, (gx_o (by decide)).trans c51, (gx_o (by decide)).trans c52⟩, fun _ _ e => (by cases e)⟩, (gx_o (by decide)).trans c44⟩
set_option maxRecDepth 100000 in
set_option maxHeartbeats 4000000 in
theorem st_bad2 {f sc k pl : Nat} {fd : Int32} {h0 h : xh_H} (hq : a_rq a_tb h) (g0 : fx rU rV h0 h) (e33 : xg 0 h.2.1 39 33 = nI sc) (e13 : xg 0 h.2.1 39 13 = nI k) (e14 : xg 0 h.2.1 39 14 = nI pl) : xq f xi_X10_statute xmi_X10_statute 132 [(0, .ref 39), (1, .int fd)] [] h (st_Q2 h0 sc fd (.inr (k, pl))) := by
  refine xq_n 138 [] [] [.int ((Int32.ofInt (-1)) - (xg 0 h.2.1 39 14))] h [] 6 hq rfl trivial (fun hq => ?_)
  rw [e14]
  refine xq_ret rfl rfl rfl ⟨fx_w g0 (fun _ _ => rU_w2) (fun _ _ z => z), fun _ e => (by cases e), fun _ _ e => ?_⟩
  exact e33
set_option maxRecDepth 100000 in
set_option maxHeartbeats 4000000 in
theorem st_fin2 {f sc p o : Nat} {fd : Int32} {h0 h : xh_H} {r : Sum Nat (Nat × Nat)} (hF : Fin_ T n mem p o nn NW r) (r0 : rq0 h T n mem nn NW p o) (hq : a_rq a_tb h) (g0 : fx rU rV h0 h) (e33 : xg 0 h.2.1 39 33 = nI sc) (sc8 : sc < 8) : xq f xi_X10_statute xmi_X10_statute 85 [(0, .ref 39), (1, .int fd)] [] h (st_Q2 h0 sc fd r) := by
  have hT : ∀ k, k < n → T k < 256 := fun k hk' => (r0.1.2.2 k hk').1
  unfold Fin_ at hF
  refine xq_n 86 [0, 1] [(0, .ref 39), (1, .int fd)] [.ref 39] h [] 3 hq rfl trivial (fun hq => ?_)
  refine xq_run hq rfl rfl (rw1_q hT r0.2.1 hq) ?_
  rintro v h1 ⟨rfl, rfl⟩
  cases b : ky T n p 1 with
  | false =>
    rw [if_pos b] at hF
    subst hF
    refine xq_n 94 [0, 1] [(0, .ref 39), (1, .int fd)] [.int (Int32.ofInt 1), .ref 39] h [false] 5 hq rfl ⟨rfl, trivial⟩ (fun hq => ?_)
    refine xq_run hq rfl rfl (bad_q (k := 1) hT r0.2.1 hq) ?_
    rintro v h2 ⟨rfl, g2, f2, l2⟩
    have hq := fx_q g2 hq
    rw [show (if rkk T n p = 1 then 1 else 1) = 1 by split <;> rfl] at f2
    refine xq_n 132 [0, 1] [(0, .ref 39), (1, .int fd)] [] h2 [true, true] 8 hq rfl ⟨rfl, by decide, trivial⟩ (fun hq => ?_)
    exact st_bad2 hq (fx_t g0 (fx_w g2 (fun _ _ z => bS_r (rS_t (rT_u z))) (fun _ _ _ => rfl))) ((fx_i g2 rfl).trans e33) f2 l2
  | true =>
    rw [if_neg (by rw [b]; decide)] at hF
    obtain ⟨q, hR, hq2⟩ := hF
    have nz : tkk T n p ≠ 0 := by have := (of_decide_eq_true b).1; omega
    refine xq_n 111 [0, 1] [(0, .ref 39), (1, .int fd)] [.ref 39] h [true, false] 9 hq rfl ⟨rfl, by decide, trivial⟩ (fun hq => ?_)
    refine xq_run hq rfl rfl (rrl_q hR r0 nz hq) ?_
    rintro v h2 ⟨g2, q1, q2⟩
    have hq := fx_q g2 hq
    have g3 : fx rU rV h0 h2 := fx_t g0 (fx_w g2 (fun _ _ => rT_u) (fun _ _ => gL_v))
    have f33 : xg 0 h2.2.1 39 33 = nI sc := (fx_i g2 rfl).trans e33
    rcases hq2 with ⟨k, pl, rfl, rfl⟩ | ⟨p', o', rfl, rfl⟩
    · obtain ⟨rfl, f1, f2⟩ := q2 _ _ rfl
      refine xq_n 132 [0, 1] [(0, .ref 39), (1, .int fd)] [] h2 [true] 3 hq rfl ⟨rfl, trivial⟩ (fun hq => ?_)
      exact st_bad2 hq g3 f33 f1 f2
    · obtain ⟨rfl, s1, s2, s3, s4, s5, s6, s7, s8⟩ := q1 _ _ rfl
      have rb := (rkk_k (T := T) (n := n) (p := p')).1
      by_cases hz : rkk T n p' = 0
      · rw [if_pos hz]
        refine xq_n 139 [0, 1] [(0, .ref 39), (1, .int fd)] [] h2 [false, true] 6 hq rfl ⟨rfl, (show xe_c .eq (xg 0 h2.2.1 39 9) 0 = true by rw [s2.2.1, hz]; rfl), trivial⟩ (fun hq => ?_)
        exact xq_mono (st_ok2 (sv := 0) (by decide) hq g3 f33 sc8 rfl) (fun v h' e => e.1)
      · rw [if_neg hz]
        refine xq_n 126 [0, 1] [(0, .ref 39), (1, .int fd)] [.int (Int32.ofInt 1), .ref 39] h2 [false, false] 8 hq rfl ⟨rfl, (show xe_c .eq (xg 0 h2.2.1 39 9) 0 = false by rw [s2.2.1]; exact xeq_f (by rw [nI_toInt (by omega)]; show ((rkk T n p' : Nat) : Int) ≠ 0; omega)), trivial⟩ (fun hq => ?_)
        refine xq_run hq rfl rfl (bad_q (k := 1) hT s2 hq) ?_
        rintro v h3 ⟨rfl, g4, f4, l4⟩
        have hq := fx_q g4 hq
        rw [show (if rkk T n p' = 1 then 1 else 1) = 1 by split <;> rfl] at f4
        refine xq_n 132 [0, 1] [(0, .ref 39), (1, .int fd)] [] h3 [false] 3 hq rfl ⟨rfl, trivial⟩ (fun hq => ?_)
        exact st_bad2 hq (fx_t g3 (fx_w g4 (fun _ _ z => bS_r (rS_t (rT_u z))) (fun _ _ _ => rfl))) ((fx_i g4 rfl).trans f33) f4 l4
set_option maxRecDepth 100000 in
set_option maxHeartbeats 4000000 in
theorem st_642 {sc : Nat} {fd : Int32} {h0 : xh_H} {r : Sum Nat (Nat × Nat)} (sc8 : sc < 8) : ∀ (j p o nn : Nat) (NW : Nat → Nat) (f : Nat) (h : xh_H), Tx T n mem j p o nn NW r → rq0 h T n mem nn NW p o → a_rq a_tb h → fx rU rV h0 h → xg 0 h.2.1 39 33 = nI sc → xq f xi_X10_statute xmi_X10_statute 64 [(0, .ref 39), (1, .int fd)] [] h (st_Q2 h0 sc fd r) := by
  intro j
  induction j with
  | zero =>
    intro p o nn NW f h hX r0 hq g0 e33
    have hT : ∀ k, k < n → T k < 256 := fun k hk' => (r0.1.2.2 k hk').1
    refine xq_n 65 [0, 1] [(0, .ref 39), (1, .int fd)] [.ref 39] h [] 3 hq rfl trivial (fun hq => ?_)
    refine xq_run hq rfl rfl (rw0_q hT r0.2.1 hq) ?_
    rintro v h1 ⟨rfl, rfl⟩
    rw [hX.1]
    refine xq_n 85 [0, 1] [(0, .ref 39), (1, .int fd)] [] h [true] 3 hq rfl ⟨rfl, trivial⟩ (fun hq => ?_)
    exact st_fin2 hX.2 r0 hq g0 e33 sc8
  | succ j ih =>
    intro p o nn NW f h hX r0 hq g0 e33
    have hT : ∀ k, k < n → T k < 256 := fun k hk' => (r0.1.2.2 k hk').1
    obtain ⟨hb, b, hB, hb2⟩ := hX
    have nz : tkk T n p ≠ 0 := by have := (of_decide_eq_true hb).1; omega
    refine xq_n 65 [0, 1] [(0, .ref 39), (1, .int fd)] [.ref 39] h [] 3 hq rfl trivial (fun hq => ?_)
    refine xq_run hq rfl rfl (rw0_q hT r0.2.1 hq) ?_
    rintro v h1 ⟨rfl, rfl⟩
    rw [hb]
    refine xq_n 72 [0, 1] [(0, .ref 39), (1, .int fd)] [.ref 39] h [false] 4 hq rfl ⟨rfl, trivial⟩ (fun hq => ?_)
    refine xq_run hq rfl rfl (rbd_q hB r0 nz hq) ?_
    rintro v h2 ⟨g2, q1, q2⟩
    have hq := fx_q g2 hq
    have f33 : xg 0 h2.2.1 39 33 = nI sc := (fx_i g2 rfl).trans e33
    rcases hb2 with ⟨k, pl, rfl, rfl⟩ | ⟨p', o', w, rfl, hX2⟩
    · obtain ⟨rfl, f1, f2⟩ := q2 _ _ rfl
      refine xq_n 84 [] [] [.int ((Int32.ofInt (-1)) - (xg 0 h2.2.1 39 14))] h2 [false] 7 hq rfl ⟨rfl, trivial⟩ (fun hq => ?_)
      rw [f2]
      refine xq_ret rfl rfl rfl ⟨fx_w (fx_t g0 g2) (fun _ _ => rU_w2) (fun _ _ z => z), fun _ e => (by cases e), fun _ _ e => ?_⟩
      exact f33
    · obtain ⟨rfl, r1⟩ := q1 _ _ _ rfl
      refine xq_n 64 [0, 1] [(0, .ref 39), (1, .int fd)] [] h2 [true] 3 hq rfl ⟨rfl, trivial⟩ (fun hq => ?_)
      exact ih _ _ _ _ f h2 hX2 r1 hq (fx_t g0 g2) f33
set_option maxRecDepth 100000 in
set_option maxHeartbeats 4000000 in
theorem st_64d {sc sv : Nat} {y : Bool} {fd : Int32} (s4 : sv < 4096) (sc8 : sc < 8) : ∀ (j p o nn : Nat) (NW : Nat → Nat) (NV : Nat → Bool) (one0 : Bool) (f : Nat) (h : xh_H), Tv T n mem sv j p o nn NW NV y → rq0 h T n mem nn NW p o → dnm h sv nn NV → xg 0 h.2.1 45 sv = bl one0 → a_rq a_tb h → xg 0 h.2.1 39 33 = nI sc → xq f xi_X10_statute xmi_X10_statute 64 [(0, .ref 39), (1, .int fd)] [] h (fun v h' => xg 0 h'.2.1 44 (4096 * sc + sv) = bl y) := by
  intro j
  induction j with
  | zero =>
    intro p o nn NW NV one0 f h hX r0 dn d45 hq e33
    have hT : ∀ k, k < n → T k < 256 := fun k hk' => (r0.1.2.2 k hk').1
    obtain ⟨kb, kc, p', o', hz, hR⟩ := hX
    have nz : tkk T n p ≠ 0 := by have := (of_decide_eq_true kc).1; omega
    refine xq_n 65 [0, 1] [(0, .ref 39), (1, .int fd)] [.ref 39] h [] 3 hq rfl trivial (fun hq => ?_)
    refine xq_run hq rfl rfl (rw0_q hT r0.2.1 hq) ?_
    rintro v h1 ⟨rfl, rfl⟩
    rw [kb]
    refine xq_n 85 [0, 1] [(0, .ref 39), (1, .int fd)] [] h [true] 3 hq rfl ⟨rfl, trivial⟩ (fun hq => ?_)
    refine xq_n 86 [0, 1] [(0, .ref 39), (1, .int fd)] [.ref 39] h [] 3 hq rfl trivial (fun hq => ?_)
    refine xq_run hq rfl rfl (rw1_q hT r0.2.1 hq) ?_
    rintro v h1 ⟨rfl, rfl⟩
    rw [kc]
    refine xq_n 111 [0, 1] [(0, .ref 39), (1, .int fd)] [.ref 39] h [true, false] 9 hq rfl ⟨rfl, by decide, trivial⟩ (fun hq => ?_)
    refine xq_run hq rfl rfl (xq_and (rrl_q (Or.inr ⟨p', o', rfl, Rv_c (hR true)⟩) r0 nz hq) (rrl_d s4 hR dn d45 r0 nz hq)) ?_
    rintro v h2 ⟨⟨g2, q1, q2⟩, k45, -⟩
    have hq := fx_q g2 hq
    obtain ⟨rfl, s1, s2, s3, s4', s5, s6, s7, s8⟩ := q1 _ _ rfl
    refine xq_n 139 [0, 1] [(0, .ref 39), (1, .int fd)] [] h2 [false, true] 6 hq rfl ⟨rfl, (show xe_c .eq (xg 0 h2.2.1 39 9) 0 = true by rw [s2.2.1, hz]; rfl), trivial⟩ (fun hq => ?_)
    refine xq_mono (st_ok2 (m := 0) s4 hq fx_0 ((fx_i g2 rfl).trans e33) sc8 k45) (fun v h' e => ?_)
    rw [e.2]
    exact bl_n
  | succ j ih =>
    intro p o nn NW NV one0 f h hX r0 dn d45 hq e33
    have hT : ∀ k, k < n → T k < 256 := fun k hk' => (r0.1.2.2 k hk').1
    obtain ⟨kb, kn, hn', n15, k58, p', o', y1, hR, hX⟩ := hX
    have nz : tkk T n p ≠ 0 := by have := (of_decide_eq_true kb).1; omega
    have hB : Bdy T n mem nn NW p o (.inl (p', o', tkw T n (tke T n p))) := by
      unfold Bdy
      rw [if_neg (by rw [kn]; decide), if_neg (by rw [hn']; decide), if_neg (by omega), if_neg (by omega)]
      exact ⟨.inl (p', o'), Or.inr ⟨p', o', rfl, Rv_c (hR true)⟩, rfl⟩
    refine xq_n 65 [0, 1] [(0, .ref 39), (1, .int fd)] [.ref 39] h [] 3 hq rfl trivial (fun hq => ?_)
    refine xq_run hq rfl rfl (rw0_q hT r0.2.1 hq) ?_
    rintro v h1 ⟨rfl, rfl⟩
    rw [kb]
    refine xq_n 72 [0, 1] [(0, .ref 39), (1, .int fd)] [.ref 39] h [false] 4 hq rfl ⟨rfl, trivial⟩ (fun hq => ?_)
    refine xq_run hq rfl rfl (xq_and (rbd_q hB r0 nz hq) (rbd_d s4 kn hn' n15 k58 hR dn d45 r0 nz hq)) ?_
    rintro v h2 ⟨⟨g2, q1, q2⟩, k45, dn2⟩
    have hq := fx_q g2 hq
    have f33 : xg 0 h2.2.1 39 33 = nI sc := (fx_i g2 rfl).trans e33
    obtain ⟨rfl, r1⟩ := q1 _ _ _ rfl
    refine xq_n 64 [0, 1] [(0, .ref 39), (1, .int fd)] [] h2 [true] 3 hq rfl ⟨rfl, trivial⟩ (fun hq => ?_)
    exact ih _ _ _ _ _ _ f h2 hX r1 dn2 k45 hq f33
/-- what the reference's statute leaves of its statutes -/
def sA0 (c k : Nat) : Bool := Nat.beq c 39 && (Nat.beq k 0 || (Nat.beq k 2 || Nat.beq k 6))
def rW3 (sc c k : Nat) : Bool := rW2 sc c k || sA0 c k
theorem sA0_w {sc c k : Nat} (h : rW3 sc c k = false) : sA0 c k = false := (or_f h).2
theorem rW3_w {sc c k : Nat} (h : rW3 sc c k = false) : rW2 sc c k = false := (or_f h).1
def s10_D (h : xh_H) (sc td : Nat) (fd : Int32) (r : Sum Nat (Nat × Nat)) (sv : Nat) (y : Bool) (v : Option Value) (h' : xh_H) : Prop := fx (rW3 sc) rV h h' ∧ (sref sc td fd → fx (fun c _ => Nat.beq c 39) rV h h') ∧ (¬ sref sc td fd → (∀ m, r = .inl m → xg 0 h'.2.1 39 33 = nI (sc + 1) ∧ xg 0 h'.2.1 51 sc = fd ∧ xg 0 h'.2.1 52 sc = nI td ∧ xg 0 h'.2.1 44 (4096 * sc + sv) = bl y) ∧ ∀ k pl, r = .inr (k, pl) → xg 0 h'.2.1 39 33 = nI sc)
def sA1 (c k : Nat) : Bool := Nat.beq c 39 && (Nat.beq k 13 || (Nat.beq k 26 || (Nat.beq k 27 || Nat.beq k 7)))
theorem sA1_w {sc c k : Nat} (h : rW3 sc c k = false) : sA1 c k = false := by
  rw [Bool.eq_false_iff]
  intro z
  unfold sA1 at z
  cases h1 : Nat.beq c 39 with
  | false => rw [h1] at z; cases z
  | true =>
    rw [h1] at z
    have e1 := Nat.eq_of_beq_eq_true h1
    subst e1
    have z : (Nat.beq k 13 || (Nat.beq k 26 || (Nat.beq k 27 || Nat.beq k 7))) = true := z
    cases h2 : Nat.beq k 13 with
    | true => rw [Nat.eq_of_beq_eq_true h2] at h; cases h
    | false =>
      rw [h2] at z
      cases h3 : Nat.beq k 26 with
      | true => rw [Nat.eq_of_beq_eq_true h3] at h; cases h
      | false =>
        rw [h3] at z
        cases h4 : Nat.beq k 27 with
        | true => rw [Nat.eq_of_beq_eq_true h4] at h; cases h
        | false =>
          rw [h4] at z
          have z : Nat.beq k 7 = true := z
          rw [Nat.eq_of_beq_eq_true z] at h
          cases h
theorem sA0_x {c k : Nat} (h : Nat.beq c 39 = false) : sA0 c k = false := by unfold sA0; rw [h]; rfl
theorem sA0_u {c k : Nat} (h : Nat.beq c 39 = false) : sA0 c k = false := by unfold sA0; rw [h]; rfl
theorem sA1_u {c k : Nat} (h : Nat.beq c 39 = false) : sA1 c k = false := by unfold sA1; rw [h]; rfl
theorem gS_u {c k : Nat} (h : Nat.beq c 39 = false) : gS c k = false := by unfold gS; rw [h]; rfl
set_option maxRecDepth 100000 in
set_option maxHeartbeats 4000000 in
/-- X10.statute -/
theorem s10_d {f sc td : Nat} {fd : Int32} {h : xh_H} {r : Sum Nat (Nat × Nat)} (hq : a_rq a_tb h) (n6 : n ≤ 640) (e2 : xg 0 h.2.1 39 2 = nI n) (hT : ∀ k, k < n → T k < 256 ∧ xg 0 h.2.1 40 k = nI (T k)) (e4 : xg 0 h.2.1 39 4 = nI mem) (m12 : mem ≤ 12) (e33 : xg 0 h.2.1 39 33 = nI sc) (sc8 : sc ≤ 8) (e3 : xg 0 h.2.1 39 3 = nI td) (td9 : td ≤ 999) {W : Nat → Nat} (hX : ¬ sref sc td fd → ∃ j, Tx T n mem j 0 0 0 W r) {sv : Nat} {y one0 : Bool} {NV : Nat → Bool} (s4 : sv < 4096) (d45 : xg 0 h.2.1 45 sv = bl one0) (hV : ¬ sref sc td fd → ∀ m, r = .inl m → ∃ j, Tv T n mem sv j 0 0 0 W NV y) : xq f xi_X10_statute xmi_X10_statute 0 [(0, .ref 39), (1, .int fd)] [] h (s10_D h sc td fd r sv y) := by
  have tdi := nI_toInt (n := td) (by omega)
  refine xq_n 7 [0, 1] [(0, .ref 39), (1, .int fd)] [.ref 39, .ref 39] (xh_ui h 39 0 (Int32.ofInt 0)) [] 7 hq rfl trivial (fun _ => ?_)
  have hq : a_rq a_tb (xh_ui h 39 0 (Int32.ofInt 0)) := a_rq_ui hq
  refine xq_run hq rfl rfl (take_q hq) ?_
  rintro v h1 ⟨rfl, rfl⟩
  have hq : a_rq a_tb (xh_ui (xh_ui h 39 0 (Int32.ofInt 0)) 39 2 (Int32.ofInt 0)) := a_rq_ui hq
  rw [show xg 0 (xh_ui h 39 0 (Int32.ofInt 0)).2.1 39 2 = nI n from (gx_k (by decide)).trans e2]
  have g1 : fx sA0 fN h (xh_ui (xh_ui (xh_ui h 39 0 (Int32.ofInt 0)) 39 2 (Int32.ofInt 0)) 39 6 (nI n)) := fx_ui (fx_ui (fx_ui fx_0 rfl) rfl) rfl
  have d33 := (fx_i (c := 39) (k := 33) g1 rfl).trans e33
  have d3 := (fx_i (c := 39) (k := 3) g1 rfl).trans e3
  have d13 := fx_i (c := 39) (k := 13) g1 rfl
  have d4 := (fx_i (c := 39) (k := 4) g1 rfl).trans e4
  have d40 : ∀ k, k < n → T k < 256 ∧ xg 0 (xh_ui (xh_ui (xh_ui h 39 0 (Int32.ofInt 0)) 39 2 (Int32.ofInt 0)) 39 6 (nI n)).2.1 40 k = nI (T k) := fun k hk' => ⟨(hT k hk').1, (fx_i (c := 40) (k := k) g1 rfl).trans (hT k hk').2⟩
  have d6 : xg 0 (xh_ui (xh_ui (xh_ui h 39 0 (Int32.ofInt 0)) 39 2 (Int32.ofInt 0)) 39 6 (nI n)).2.1 39 6 = nI n := gx_s
  have hq1 : a_rq a_tb (xh_ui (xh_ui (xh_ui h 39 0 (Int32.ofInt 0)) 39 2 (Int32.ofInt 0)) 39 6 (nI n)) := a_rq_ui hq
  refine xq_n 13 [0, 1] [(0, .ref 39), (1, .int fd)] [] (xh_ui (xh_ui (xh_ui h 39 0 (Int32.ofInt 0)) 39 2 (Int32.ofInt 0)) 39 6 (nI n)) [] 3 hq rfl trivial (fun _ => ?_)
  generalize xh_ui (xh_ui (xh_ui h 39 0 (Int32.ofInt 0)) 39 2 (Int32.ofInt 0)) 39 6 (nI n) = h1 at d33 d3 d13 d4 d40 d6 hq1 g1 ⊢
  have hq := hq1
  by_cases k8 : sc = 8
  · refine xq_n 39 [] [] [.int (-1000)] h1 [true] 7 hq rfl ⟨(show xe_c .eq (xg 0 h1.2.1 39 33) 8 = true by rw [d33, k8]; rfl), trivial⟩ (fun hq => ?_)
    exact xq_ret rfl rfl rfl ⟨fx_w g1 (fun _ _ => sA0_w) (fun _ _ _ => rfl), fun _ => fx_w g1 (fun _ _ => sA0_x) (fun _ _ _ => rfl), fun z => absurd (Or.inl (by omega)) z⟩
  have c1 : xe_c .eq (xg 0 h1.2.1 39 33) 8 = false := by rw [d33]; exact xeq_f (by rw [nI_toInt (by omega)]; show ((sc : Nat) : Int) ≠ 8; omega)
  refine xq_n 30 [0, 1] [(0, .ref 39), (1, .int fd)] [.int 999, .int (xg 0 h1.2.1 39 3), .int fd] h1 [false] 10 hq rfl ⟨c1, trivial⟩ (fun hq => ?_)
  rw [d3]
  refine xq_run hq rfl rfl (isIn_q hq) ?_
  rintro v h2 ⟨rfl, rfl⟩
  cases b : decide ((nI td).toInt ≤ fd.toInt ∧ fd.toInt ≤ (999 : Int32).toInt) with
  | false =>
    have db := of_decide_eq_false b
    rw [tdi] at db
    have e9 : (999 : Int32).toInt = 999 := rfl
    rw [e9] at db
    refine xq_n 39 [] [] [.int (-1000)] h1 [false] 4 hq rfl ⟨rfl, trivial⟩ (fun hq => ?_)
    refine xq_ret rfl rfl rfl ⟨fx_w g1 (fun _ _ => sA0_w) (fun _ _ _ => rfl), fun _ => fx_w g1 (fun _ _ => sA0_x) (fun _ _ _ => rfl), fun z => absurd ?_ z⟩
    by_cases z1 : (td : Int) ≤ fd.toInt
    · exact Or.inr (Or.inr (by omega))
    · exact Or.inr (Or.inl (by omega))
  | true =>
    have db := of_decide_eq_true b
    rw [tdi] at db
    have e9 : (999 : Int32).toInt = 999 := rfl
    rw [e9] at db
    have nsr : ¬ sref sc td fd := by
      rintro (z | z | z) <;> omega
    obtain ⟨j, hX⟩ := hX nsr
    refine xq_n 61 [0, 1] [(0, .ref 39), (1, .int fd)] [.ref 39] (xh_ui (xh_ui (xh_ui (xh_ui h1 39 13 (Int32.ofInt 0)) 39 26 (Int32.ofInt 0)) 39 27 (Int32.ofInt 0)) 39 7 (Int32.ofInt 0)) [true] 16 hq rfl ⟨rfl, trivial⟩ (fun _ => ?_)
    have hq : a_rq a_tb (xh_ui (xh_ui (xh_ui (xh_ui h1 39 13 (Int32.ofInt 0)) 39 26 (Int32.ofInt 0)) 39 27 (Int32.ofInt 0)) 39 7 (Int32.ofInt 0)) := a_rq_ui (a_rq_ui (a_rq_ui (a_rq_ui hq)))
    have g2 : fx sA1 fN h1 (xh_ui (xh_ui (xh_ui (xh_ui h1 39 13 (Int32.ofInt 0)) 39 26 (Int32.ofInt 0)) 39 27 (Int32.ofInt 0)) 39 7 (Int32.ofInt 0)) := fx_ui (fx_ui (fx_ui (fx_ui fx_0 rfl) rfl) rfl) rfl
    have a33 := (fx_i (c := 39) (k := 33) g2 rfl).trans d33
    have a4 := (fx_i (c := 39) (k := 4) g2 rfl).trans d4
    have a6 := (fx_i (c := 39) (k := 6) g2 rfl).trans d6
    have a40 : ∀ k, k < n → T k < 256 ∧ xg 0 (xh_ui (xh_ui (xh_ui (xh_ui h1 39 13 (Int32.ofInt 0)) 39 26 (Int32.ofInt 0)) 39 27 (Int32.ofInt 0)) 39 7 (Int32.ofInt 0)).2.1 40 k = nI (T k) := fun k hk' => ⟨(d40 k hk').1, (fx_i (c := 40) (k := k) g2 rfl).trans (d40 k hk').2⟩
    have a7 : xg 0 (xh_ui (xh_ui (xh_ui (xh_ui h1 39 13 (Int32.ofInt 0)) 39 26 (Int32.ofInt 0)) 39 27 (Int32.ofInt 0)) 39 7 (Int32.ofInt 0)).2.1 39 7 = nI 0 := gx_s
    have a27 : xg 0 (xh_ui (xh_ui (xh_ui (xh_ui h1 39 13 (Int32.ofInt 0)) 39 26 (Int32.ofInt 0)) 39 27 (Int32.ofInt 0)) 39 7 (Int32.ofInt 0)).2.1 39 27 = nI 0 := (gx_k (by decide)).trans gx_s
    have a26 : xg 0 (xh_ui (xh_ui (xh_ui (xh_ui h1 39 13 (Int32.ofInt 0)) 39 26 (Int32.ofInt 0)) 39 27 (Int32.ofInt 0)) 39 7 (Int32.ofInt 0)).2.1 39 26 = nI 0 := (gx_k (by decide)).trans ((gx_k (by decide)).trans gx_s)
    have a13 : xg 0 (xh_ui (xh_ui (xh_ui (xh_ui h1 39 13 (Int32.ofInt 0)) 39 26 (Int32.ofInt 0)) 39 27 (Int32.ofInt 0)) 39 7 (Int32.ofInt 0)).2.1 39 13 = nI 0 := (gx_k (by decide)).trans ((gx_k (by decide)).trans ((gx_k (by decide)).trans gx_s))
    generalize xh_ui (xh_ui (xh_ui (xh_ui h1 39 13 (Int32.ofInt 0)) 39 26 (Int32.ofInt 0)) 39 27 (Int32.ofInt 0)) 39 7 (Int32.ofInt 0) = h2 at hq a33 a4 a6 a40 a7 a27 a26 a13 g2 ⊢
    have hr : rtp h2 T n := ⟨a6, n6, a40⟩
    refine xq_run hq rfl rfl (go_q hq hr a7 (Nat.zero_le _)) ?_
    rintro v h3 ⟨rfl, g3, t3⟩
    have hq := fx_q g3 hq
    have r0 : rq0 h3 T n mem 0 W 0 0 := ⟨rtp_f hr g3 rfl (fun _ => rfl), t3, (fx_i g3 rfl).trans a4, m12, ⟨(fx_i g3 rfl).trans a26, by decide, fun k hk' => absurd hk' (Nat.not_lt_zero k)⟩, (fx_i g3 rfl).trans a27, by decide, (fx_i g3 rfl).trans a13⟩
    have gh : fx (rW3 sc) rV h h3 := fx_t (fx_t (fx_w g1 (fun _ _ => sA0_w) (fun _ _ _ => rfl)) (fx_w g2 (fun _ _ => sA1_w) (fun _ _ _ => rfl))) (fx_w g3 (fun _ _ z => gS_r (rS_t (rT_u (rU_w2 (rW3_w z))))) (fun _ _ z => gL_v z))
    have gu : fx (fun c _ => Nat.beq c 39) rV h h3 := fx_t (fx_t (fx_w g1 (fun _ _ => sA0_u) (fun _ _ _ => rfl)) (fx_w g2 (fun _ _ => sA1_u) (fun _ _ _ => rfl))) (fx_w g3 (fun _ _ z => gS_u z) (fun _ _ z => gL_v z))
    have k3 : xg 0 h3.2.1 39 3 = nI td := (fx_i g3 rfl).trans ((fx_i g2 rfl).trans d3)
    have k45 : xg 0 h3.2.1 45 sv = bl one0 := (fx_i gu rfl).trans d45
    have M1 := st_642 (fd := fd) (h0 := h3) (by omega) j 0 0 0 W f h3 hX r0 hq fx_0 ((fx_i g3 rfl).trans a33)
    cases r with
    | inr e =>
      refine xq_mono M1 (fun v h' e => ⟨fx_t gh (fx_w e.1 (fun _ _ => rW3_w) (fun _ _ z => z)), fun z => absurd z nsr, fun _ => ⟨fun _ z => (by cases z), fun _ _ z => e.2.2 _ _ z⟩⟩)
    | inl m =>
      obtain ⟨j2, hT2⟩ := hV nsr m rfl
      refine xq_mono (xq_and M1 (st_64d (fd := fd) s4 (by omega) j2 0 0 0 W NV one0 f h3 hT2 r0 (fun k hk' => absurd hk' (Nat.not_lt_zero k)) k45 hq ((fx_i g3 rfl).trans a33))) (fun v h' e => ?_)
      refine ⟨fx_t gh (fx_w e.1.1 (fun _ _ => rW3_w) (fun _ _ z => z)), fun z => absurd z nsr, fun _ => ⟨fun _ _ => ?_, fun _ _ z => (by cases z)⟩⟩
      obtain ⟨q1, q2, q3⟩ := e.1.2.1 m rfl
      exact ⟨q1, q2, q3.trans k3, e.2⟩
end XDW
end
section
section XRU
def stk (h : xh_H) : List Int32 → Prop
  | [] => True
  | x :: σ => xg 0 h.2.1 7 σ.length = x ∧ stk h σ
theorem stk_u {h : xh_H} {k : Nat} {x : Int32} : ∀ {σ : List Int32}, σ.length ≤ k → stk h σ → stk (xh_ui h 7 k x) σ := by
  intro σ
  induction σ with
  | nil => intro _ _; trivial
  | cons y σ ih =>
    intro hk' s
    have hk' : σ.length + 1 ≤ k := hk'
    exact ⟨(gx_k (by omega)).trans s.1, ih (by omega) s.2⟩
def F7 (c _k : Nat) : Bool := Nat.beq c 7
theorem px1_i {sv nm v : Int32} {c : Nat} {σ : List Int32} {x : List Int32 × Int32} (h : px1 sv (c, v) (σ, nm) = some x) : (c = 0 ∧ σ.length < 64 ∧ x = (((sv >>> (v &&& 31)) &&& Int32.ofInt 1) :: σ, nm)) ∨ (c = 1 ∧ σ.length < 64 ∧ x = (((nm >>> (v &&& 31)) &&& Int32.ofInt 1) :: σ, nm)) ∨ (c = 4 ∧ σ.length < 64 ∧ x = (Int32.ofInt 0 :: σ, nm)) ∨ (∃ a b ρ, σ = a :: b :: ρ ∧ ((c = 2 ∧ x = ((b &&& a) :: ρ, nm)) ∨ (c = 3 ∧ x = ((b ||| a) :: ρ, nm)) ∨ (c = 5 ∧ x = ((b + a * v) :: ρ, nm)))) ∨ ∃ a ρ, σ = a :: ρ ∧ ((c = 6 ∧ x = (bl (xe_c .ge a v) :: ρ, nm)) ∨ (c = 7 ∧ x = (ρ, nm ||| (a <<< (v &&& 31))))) := by
  unfold px1 at h
  split at h
  · rename_i e1 e2; cases e2
    split at h
    · cases h; exact Or.inl ⟨e1, by assumption, rfl⟩
    · cases h
  · rename_i e1 e2; cases e2
    split at h
    · cases h; exact Or.inr (Or.inl ⟨e1, by assumption, rfl⟩)
    · cases h
  · rename_i e1 e2; cases e2; cases h; exact Or.inr (Or.inr (Or.inr (Or.inl ⟨_, _, _, rfl, Or.inl ⟨e1, rfl⟩⟩)))
  · rename_i e1 e2; cases e2; cases h; exact Or.inr (Or.inr (Or.inr (Or.inl ⟨_, _, _, rfl, Or.inr (Or.inl ⟨e1, rfl⟩)⟩)))
  · rename_i e1 e2; cases e2
    split at h
    · cases h; exact Or.inr (Or.inr (Or.inl ⟨e1, by assumption, rfl⟩))
    · cases h
  · rename_i e1 e2; cases e2; cases h; exact Or.inr (Or.inr (Or.inr (Or.inl ⟨_, _, _, rfl, Or.inr (Or.inr ⟨e1, rfl⟩)⟩)))
  · rename_i e1 e2; cases e2; cases h; exact Or.inr (Or.inr (Or.inr (Or.inr ⟨_, _, rfl, Or.inl ⟨e1, rfl⟩⟩)))
  · rename_i e1 e2; cases e2; cases h; exact Or.inr (Or.inr (Or.inr (Or.inr ⟨_, _, rfl, Or.inr ⟨e1, rfl⟩⟩)))
  · cases h
theorem px_c {sv : Int32} {q : Nat × Int32} {c : cdL} {x z : List Int32 × Int32} (h : px sv (q :: c) x = some z) : ∃ w, px1 sv q x = some w ∧ px sv c w = some z := by
  have h : (px1 sv q x).bind (px sv c) = some z := h
  cases e : px1 sv q x with
  | none => rw [e] at h; cases h
  | some w => rw [e] at h; exact ⟨w, rfl, h⟩
theorem nI_d2 {m : Nat} : nI (m + 2) + Int32.ofInt (-1) = nI (m + 1) := nI_dec (m + 1)
set_option maxRecDepth 100000 in
set_option maxHeartbeats 4000000 in
theorem jn2_q {f : Nat} {x y z : Int32} {h : xh_H} (hq : a_rq a_tb h) : xq f xi_X3_join xmi_X3_join 0 [(0, .int 2), (1, .int x), (2, .int y), (3, .int z)] [] h (fun v h' => h = h' ∧ v = some (.int (x &&& y))) := by
  refine xq_n 8 [] [] [.int (x &&& y)] h [false] 8 hq rfl ⟨(by decide), trivial⟩ (fun hq => ?_)
  exact xq_ret rfl rfl rfl ⟨rfl, rfl⟩
set_option maxRecDepth 100000 in
set_option maxHeartbeats 4000000 in
theorem jn3_q {f : Nat} {x y z : Int32} {h : xh_H} (hq : a_rq a_tb h) : xq f xi_X3_join xmi_X3_join 0 [(0, .int 3), (1, .int x), (2, .int y), (3, .int z)] [] h (fun v h' => h = h' ∧ v = some (.int (x ||| y))) := by
  refine xq_n 25 [] [] [.int (x ||| y)] h [true, false] 12 hq rfl ⟨(by decide), (by decide), trivial⟩ (fun hq => ?_)
  exact xq_ret rfl rfl rfl ⟨rfl, rfl⟩
set_option maxRecDepth 100000 in
set_option maxHeartbeats 4000000 in
theorem jn5_q {f : Nat} {x y z : Int32} {h : xh_H} (hq : a_rq a_tb h) : xq f xi_X3_join xmi_X3_join 0 [(0, .int 5), (1, .int x), (2, .int y), (3, .int z)] [] h (fun v h' => h = h' ∧ v = some (.int (x + y * z))) := by
  refine xq_n 25 [] [] [.int (x + (y * z))] h [true, true] 13 hq rfl ⟨(by decide), (by decide), trivial⟩ (fun hq => ?_)
  exact xq_ret rfl rfl rfl ⟨rfl, rfl⟩
set_option maxRecDepth 100000 in
set_option maxHeartbeats 4000000 in
theorem run_0 {g i m : Nat} {sv nm v : Int32} {P : cdL} {σ : List Int32} {h hb : xh_H} {Q : Option Value → xh_H → Prop} (hq : a_rq a_tb h) (ge : fx F7 fN hb h) (pt : ptx h P) (hi : i < P.length) (l4 : P.length < 400) (hc : xg 0 h.2.1 5 i = 0 ∧ xg 0 h.2.1 6 i = v) (hm : σ.length = m) (m64 : m < 64) (ss : stk h σ) (K : ∀ h', a_rq a_tb h' → fx F7 fN hb h' → ptx h' P → stk h' (((sv >>> (v &&& 31)) &&& Int32.ofInt 1) :: σ) → xq g xi_X3_run xmi_X3_run 7 [(0, .ref 4), (1, .int sv), (2, .int nm), (3, .int (nI (m + 1))), (4, .int (nI (i + 1)))] [] h' Q) : xq (g + 1) xi_X3_run xmi_X3_run 7 [(0, .ref 4), (1, .int sv), (2, .int nm), (3, .int (nI m)), (4, .int (nI i))] [] h Q := by
  cases c1 : xe_c .ge (nI i) (nI (P.length)) with
  | true =>
    have z1 : i ≥ (P.length) := nq_get (a := i) (b := (P.length)) (by omega) (by omega) c1
    omega
  | false =>
    have z1 : i < (P.length) := nq_gef (a := i) (b := (P.length)) (by omega) (by omega) c1
    refine xq_m 82 [0, 1, 2, 3, 4, 5, 6, 7] [(0, .ref 4), (1, .int sv), (2, .int nm), (3, .int (nI m)), (4, .int (nI i)), (5, .int (xg 0 h.2.1 5 ((nI i).toNatClampNeg))), (6, .int (xg 0 h.2.1 6 ((nI i).toNatClampNeg))), (7, .int ((sv >>> ((xg 0 h.2.1 6 ((nI i).toNatClampNeg)) &&& 31)) &&& (Int32.ofInt 1)))] [.int ((sv >>> ((xg 0 h.2.1 6 ((nI i).toNatClampNeg)) &&& 31)) &&& (Int32.ofInt 1)), .int (nI m), .ref 4] h [false, true, true, false] 33 hq rfl ⟨(show xe_c .ge (nI i) (xg 0 h.2.1 4 3) = false by rw [show (xg 0 h.2.1 4 3) = (nI (P.length)) from pt.1]; exact c1), (show xe_c .eq (xg 0 h.2.1 5 ((nI i).toNatClampNeg)) 0 = true by rw [show (xg 0 h.2.1 5 ((nI i).toNatClampNeg)) = 0 from (by rw [show ((nI i).toNatClampNeg) = i from nI_clamp (by omega)]; exact hc.1)]; rfl), (show xe_c .ne (xg 0 h.2.1 5 ((nI i).toNatClampNeg)) (Int32.ofInt 4) = true by rw [show (xg 0 h.2.1 5 ((nI i).toNatClampNeg)) = 0 from (by rw [show ((nI i).toNatClampNeg) = i from nI_clamp (by omega)]; exact hc.1)]; rfl), (show xe_c .ne (xg 0 h.2.1 5 ((nI i).toNatClampNeg)) 0 = false by rw [show (xg 0 h.2.1 5 ((nI i).toNatClampNeg)) = 0 from (by rw [show ((nI i).toNatClampNeg) = i from nI_clamp (by omega)]; exact hc.1)]; rfl), trivial⟩ (fun hq => ?_)
    rw [show (xg 0 h.2.1 5 ((nI i).toNatClampNeg)) = 0 from (by rw [show ((nI i).toNatClampNeg) = i from nI_clamp (by omega)]; exact hc.1)]
    rw [show (xg 0 h.2.1 6 ((nI i).toNatClampNeg)) = v from (by rw [show ((nI i).toNatClampNeg) = i from nI_clamp (by omega)]; exact hc.2)]
    refine xq_run hq rfl rfl (psh_q (d := m) (Nat.zero_le _) (by omega) hq) ?_
    rintro v2 h2 ⟨rfl, rfl⟩
    have hq : a_rq a_tb (xh_ui h 7 m ((sv >>> ((v) &&& 31)) &&& (Int32.ofInt 1))) := a_rq_ui hq
    refine xq_n 7 [0, 1, 2, 3, 4] [(0, .ref 4), (1, .int sv), (2, .int nm), (3, .int (nI (m + 1))), (4, .int ((nI i) + Int32.ofInt 1))] [] (xh_ui h 7 m ((sv >>> ((v) &&& 31)) &&& (Int32.ofInt 1))) [] 6 hq rfl trivial (fun hq => ?_)
    rw [show ((nI i) + Int32.ofInt 1) = nI (i + 1) from nI_1 _]
    exact K _ hq (fx_ui (ge) rfl) (ptx_f (S := fun c _ => Nat.beq c 7) (L := fN) (pt) (fx_ui fx_0 rfl) rfl (fun _ => rfl) (fun _ => rfl)) (⟨by rw [hm]; exact gx_s, stk_u (by omega) ss⟩)
set_option maxRecDepth 100000 in
set_option maxHeartbeats 4000000 in
theorem run_1 {g i m : Nat} {sv nm v : Int32} {P : cdL} {σ : List Int32} {h hb : xh_H} {Q : Option Value → xh_H → Prop} (hq : a_rq a_tb h) (ge : fx F7 fN hb h) (pt : ptx h P) (hi : i < P.length) (l4 : P.length < 400) (hc : xg 0 h.2.1 5 i = 1 ∧ xg 0 h.2.1 6 i = v) (hm : σ.length = m) (m64 : m < 64) (ss : stk h σ) (K : ∀ h', a_rq a_tb h' → fx F7 fN hb h' → ptx h' P → stk h' (((nm >>> (v &&& 31)) &&& Int32.ofInt 1) :: σ) → xq g xi_X3_run xmi_X3_run 7 [(0, .ref 4), (1, .int sv), (2, .int nm), (3, .int (nI (m + 1))), (4, .int (nI (i + 1)))] [] h' Q) : xq (g + 1) xi_X3_run xmi_X3_run 7 [(0, .ref 4), (1, .int sv), (2, .int nm), (3, .int (nI m)), (4, .int (nI i))] [] h Q := by
  cases c1 : xe_c .ge (nI i) (nI (P.length)) with
  | true =>
    have z1 : i ≥ (P.length) := nq_get (a := i) (b := (P.length)) (by omega) (by omega) c1
    omega
  | false =>
    have z1 : i < (P.length) := nq_gef (a := i) (b := (P.length)) (by omega) (by omega) c1
    refine xq_m 82 [0, 1, 2, 3, 4, 5, 6, 7] [(0, .ref 4), (1, .int sv), (2, .int nm), (3, .int (nI m)), (4, .int (nI i)), (5, .int (xg 0 h.2.1 5 ((nI i).toNatClampNeg))), (6, .int (xg 0 h.2.1 6 ((nI i).toNatClampNeg))), (7, .int ((nm >>> ((xg 0 h.2.1 6 ((nI i).toNatClampNeg)) &&& 31)) &&& (Int32.ofInt 1)))] [.int ((nm >>> ((xg 0 h.2.1 6 ((nI i).toNatClampNeg)) &&& 31)) &&& (Int32.ofInt 1)), .int (nI m), .ref 4] h [false, false, true, true, true] 35 hq rfl ⟨(show xe_c .ge (nI i) (xg 0 h.2.1 4 3) = false by rw [show (xg 0 h.2.1 4 3) = (nI (P.length)) from pt.1]; exact c1), (show xe_c .eq (xg 0 h.2.1 5 ((nI i).toNatClampNeg)) 0 = false by rw [show (xg 0 h.2.1 5 ((nI i).toNatClampNeg)) = 1 from (by rw [show ((nI i).toNatClampNeg) = i from nI_clamp (by omega)]; exact hc.1)]; rfl), (show xe_c .eq (xg 0 h.2.1 5 ((nI i).toNatClampNeg)) (Int32.ofInt 1) = true by rw [show (xg 0 h.2.1 5 ((nI i).toNatClampNeg)) = 1 from (by rw [show ((nI i).toNatClampNeg) = i from nI_clamp (by omega)]; exact hc.1)]; rfl), (show xe_c .ne (xg 0 h.2.1 5 ((nI i).toNatClampNeg)) (Int32.ofInt 4) = true by rw [show (xg 0 h.2.1 5 ((nI i).toNatClampNeg)) = 1 from (by rw [show ((nI i).toNatClampNeg) = i from nI_clamp (by omega)]; exact hc.1)]; rfl), (show xe_c .ne (xg 0 h.2.1 5 ((nI i).toNatClampNeg)) 0 = true by rw [show (xg 0 h.2.1 5 ((nI i).toNatClampNeg)) = 1 from (by rw [show ((nI i).toNatClampNeg) = i from nI_clamp (by omega)]; exact hc.1)]; rfl), trivial⟩ (fun hq => ?_)
    rw [show (xg 0 h.2.1 5 ((nI i).toNatClampNeg)) = 1 from (by rw [show ((nI i).toNatClampNeg) = i from nI_clamp (by omega)]; exact hc.1)]
    rw [show (xg 0 h.2.1 6 ((nI i).toNatClampNeg)) = v from (by rw [show ((nI i).toNatClampNeg) = i from nI_clamp (by omega)]; exact hc.2)]
    refine xq_run hq rfl rfl (psh_q (d := m) (Nat.zero_le _) (by omega) hq) ?_
    rintro v2 h2 ⟨rfl, rfl⟩
    have hq : a_rq a_tb (xh_ui h 7 m ((nm >>> ((v) &&& 31)) &&& (Int32.ofInt 1))) := a_rq_ui hq
    refine xq_n 7 [0, 1, 2, 3, 4] [(0, .ref 4), (1, .int sv), (2, .int nm), (3, .int (nI (m + 1))), (4, .int ((nI i) + Int32.ofInt 1))] [] (xh_ui h 7 m ((nm >>> ((v) &&& 31)) &&& (Int32.ofInt 1))) [] 6 hq rfl trivial (fun hq => ?_)
    rw [show ((nI i) + Int32.ofInt 1) = nI (i + 1) from nI_1 _]
    exact K _ hq (fx_ui (ge) rfl) (ptx_f (S := fun c _ => Nat.beq c 7) (L := fN) (pt) (fx_ui fx_0 rfl) rfl (fun _ => rfl) (fun _ => rfl)) (⟨by rw [hm]; exact gx_s, stk_u (by omega) ss⟩)
set_option maxRecDepth 100000 in
set_option maxHeartbeats 4000000 in
theorem run_4 {g i m : Nat} {sv nm v : Int32} {P : cdL} {σ : List Int32} {h hb : xh_H} {Q : Option Value → xh_H → Prop} (hq : a_rq a_tb h) (ge : fx F7 fN hb h) (pt : ptx h P) (hi : i < P.length) (l4 : P.length < 400) (hc : xg 0 h.2.1 5 i = 4 ∧ xg 0 h.2.1 6 i = v) (hm : σ.length = m) (m64 : m < 64) (ss : stk h σ) (K : ∀ h', a_rq a_tb h' → fx F7 fN hb h' → ptx h' P → stk h' (Int32.ofInt 0 :: σ) → xq g xi_X3_run xmi_X3_run 7 [(0, .ref 4), (1, .int sv), (2, .int nm), (3, .int (nI (m + 1))), (4, .int (nI (i + 1)))] [] h' Q) : xq (g + 1) xi_X3_run xmi_X3_run 7 [(0, .ref 4), (1, .int sv), (2, .int nm), (3, .int (nI m)), (4, .int (nI i))] [] h Q := by
  cases c1 : xe_c .ge (nI i) (nI (P.length)) with
  | true =>
    have z1 : i ≥ (P.length) := nq_get (a := i) (b := (P.length)) (by omega) (by omega) c1
    omega
  | false =>
    have z1 : i < (P.length) := nq_gef (a := i) (b := (P.length)) (by omega) (by omega) c1
    refine xq_m 82 [0, 1, 2, 3, 4, 5, 6, 7] [(0, .ref 4), (1, .int sv), (2, .int nm), (3, .int (nI m)), (4, .int (nI i)), (5, .int (xg 0 h.2.1 5 ((nI i).toNatClampNeg))), (6, .int (xg 0 h.2.1 6 ((nI i).toNatClampNeg))), (7, .int (Int32.ofInt 0))] [.int (Int32.ofInt 0), .int (nI m), .ref 4] h [false, false, false, false, false] 33 hq rfl ⟨(show xe_c .ge (nI i) (xg 0 h.2.1 4 3) = false by rw [show (xg 0 h.2.1 4 3) = (nI (P.length)) from pt.1]; exact c1), (show xe_c .eq (xg 0 h.2.1 5 ((nI i).toNatClampNeg)) 0 = false by rw [show (xg 0 h.2.1 5 ((nI i).toNatClampNeg)) = 4 from (by rw [show ((nI i).toNatClampNeg) = i from nI_clamp (by omega)]; exact hc.1)]; rfl), (show xe_c .eq (xg 0 h.2.1 5 ((nI i).toNatClampNeg)) (Int32.ofInt 1) = false by rw [show (xg 0 h.2.1 5 ((nI i).toNatClampNeg)) = 4 from (by rw [show ((nI i).toNatClampNeg) = i from nI_clamp (by omega)]; exact hc.1)]; rfl), (show xe_c .ne (xg 0 h.2.1 5 ((nI i).toNatClampNeg)) (Int32.ofInt 4) = false by rw [show (xg 0 h.2.1 5 ((nI i).toNatClampNeg)) = 4 from (by rw [show ((nI i).toNatClampNeg) = i from nI_clamp (by omega)]; exact hc.1)]; rfl), (show xe_c .ne (xg 0 h.2.1 5 ((nI i).toNatClampNeg)) (Int32.ofInt 4) = false by rw [show (xg 0 h.2.1 5 ((nI i).toNatClampNeg)) = 4 from (by rw [show ((nI i).toNatClampNeg) = i from nI_clamp (by omega)]; exact hc.1)]; rfl), trivial⟩ (fun hq => ?_)
    rw [show (xg 0 h.2.1 5 ((nI i).toNatClampNeg)) = 4 from (by rw [show ((nI i).toNatClampNeg) = i from nI_clamp (by omega)]; exact hc.1)]
    rw [show (xg 0 h.2.1 6 ((nI i).toNatClampNeg)) = v from (by rw [show ((nI i).toNatClampNeg) = i from nI_clamp (by omega)]; exact hc.2)]
    refine xq_run hq rfl rfl (psh_q (d := m) (Nat.zero_le _) (by omega) hq) ?_
    rintro v2 h2 ⟨rfl, rfl⟩
    have hq : a_rq a_tb (xh_ui h 7 m (Int32.ofInt 0)) := a_rq_ui hq
    refine xq_n 7 [0, 1, 2, 3, 4] [(0, .ref 4), (1, .int sv), (2, .int nm), (3, .int (nI (m + 1))), (4, .int ((nI i) + Int32.ofInt 1))] [] (xh_ui h 7 m (Int32.ofInt 0)) [] 6 hq rfl trivial (fun hq => ?_)
    rw [show ((nI i) + Int32.ofInt 1) = nI (i + 1) from nI_1 _]
    exact K _ hq (fx_ui (ge) rfl) (ptx_f (S := fun c _ => Nat.beq c 7) (L := fN) (pt) (fx_ui fx_0 rfl) rfl (fun _ => rfl) (fun _ => rfl)) (⟨by rw [hm]; exact gx_s, stk_u (by omega) ss⟩)
set_option maxRecDepth 100000 in
set_option maxHeartbeats 4000000 in
theorem run_2 {g i m : Nat} {sv nm v a b : Int32} {P : cdL} {ρ : List Int32} {h hb : xh_H} {Q : Option Value → xh_H → Prop} (hq : a_rq a_tb h) (ge : fx F7 fN hb h) (pt : ptx h P) (hi : i < P.length) (l4 : P.length < 400) (hc : xg 0 h.2.1 5 i = 2 ∧ xg 0 h.2.1 6 i = v) (hm : ρ.length = m) (m64 : m + 2 ≤ 64) (ss : stk h (a :: b :: ρ)) (K : ∀ h', a_rq a_tb h' → fx F7 fN hb h' → ptx h' P → stk h' ((b &&& a) :: ρ) → xq g xi_X3_run xmi_X3_run 7 [(0, .ref 4), (1, .int sv), (2, .int nm), (3, .int (nI (m + 1))), (4, .int (nI (i + 1)))] [] h' Q) : xq (g + 1) xi_X3_run xmi_X3_run 7 [(0, .ref 4), (1, .int sv), (2, .int nm), (3, .int (nI (m + 2))), (4, .int (nI i))] [] h Q := by
  cases c1 : xe_c .ge (nI i) (nI (P.length)) with
  | true =>
    have z1 : i ≥ (P.length) := nq_get (a := i) (b := (P.length)) (by omega) (by omega) c1
    omega
  | false =>
    have z1 : i < (P.length) := nq_gef (a := i) (b := (P.length)) (by omega) (by omega) c1
    refine xq_m 121 [0, 1, 2, 3, 4, 5, 6] [(0, .ref 4), (1, .int sv), (2, .int nm), (3, .int (nI (m + 2))), (4, .int (nI i)), (5, .int (xg 0 h.2.1 5 ((nI i).toNatClampNeg))), (6, .int (xg 0 h.2.1 6 ((nI i).toNatClampNeg)))] [.int (nI (m + 2)), .ref 4] h [false, false, false, true, true] 29 hq rfl ⟨(show xe_c .ge (nI i) (xg 0 h.2.1 4 3) = false by rw [show (xg 0 h.2.1 4 3) = (nI (P.length)) from pt.1]; exact c1), (show xe_c .eq (xg 0 h.2.1 5 ((nI i).toNatClampNeg)) 0 = false by rw [show (xg 0 h.2.1 5 ((nI i).toNatClampNeg)) = 2 from (by rw [show ((nI i).toNatClampNeg) = i from nI_clamp (by omega)]; exact hc.1)]; rfl), (show xe_c .eq (xg 0 h.2.1 5 ((nI i).toNatClampNeg)) (Int32.ofInt 1) = false by rw [show (xg 0 h.2.1 5 ((nI i).toNatClampNeg)) = 2 from (by rw [show ((nI i).toNatClampNeg) = i from nI_clamp (by omega)]; exact hc.1)]; rfl), (show xe_c .ne (xg 0 h.2.1 5 ((nI i).toNatClampNeg)) (Int32.ofInt 4) = true by rw [show (xg 0 h.2.1 5 ((nI i).toNatClampNeg)) = 2 from (by rw [show ((nI i).toNatClampNeg) = i from nI_clamp (by omega)]; exact hc.1)]; rfl), (show xe_c .ne (xg 0 h.2.1 5 ((nI i).toNatClampNeg)) 6 = true by rw [show (xg 0 h.2.1 5 ((nI i).toNatClampNeg)) = 2 from (by rw [show ((nI i).toNatClampNeg) = i from nI_clamp (by omega)]; exact hc.1)]; rfl), trivial⟩ (fun hq => ?_)
    rw [show (xg 0 h.2.1 5 ((nI i).toNatClampNeg)) = 2 from (by rw [show ((nI i).toNatClampNeg) = i from nI_clamp (by omega)]; exact hc.1)]
    rw [show (xg 0 h.2.1 6 ((nI i).toNatClampNeg)) = v from (by rw [show ((nI i).toNatClampNeg) = i from nI_clamp (by omega)]; exact hc.2)]
    refine xq_run hq rfl rfl (pek_q (d := (m + 2)) (by omega) (by omega) hq) ?_
    rintro v2 h2 ⟨rfl, rfl⟩
    rw [show xg 0 h.2.1 7 ((m + 2) - 1) = a from ((hm ▸ ss.1))]
    refine xq_n 153 [0, 1, 2, 3, 4, 5, 6, 7] [(0, .ref 4), (1, .int sv), (2, .int nm), (3, .int ((nI (m + 2)) + Int32.ofInt (-1))), (4, .int (nI i)), (5, .int 2), (6, .int v), (7, .int a)] [.int ((nI (m + 2)) + Int32.ofInt (-1)), .ref 4, .int 2, .int ((nI (m + 2)) + Int32.ofInt (-1)), .ref 4] h [true] 12 hq rfl ⟨(by decide), trivial⟩ (fun hq => ?_)
    rw [show ((nI (m + 2)) + Int32.ofInt (-1)) = nI (m + 1) from nI_d2]
    refine xq_run hq rfl rfl (pek_q (d := (m + 1)) (by omega) (by omega) hq) ?_
    rintro v3 h3 ⟨rfl, rfl⟩
    rw [show xg 0 h.2.1 7 ((m + 1) - 1) = b from ((hm ▸ ss.2.1))]
    refine xq_n 160 [0, 1, 2, 3, 4, 5, 6, 7] [(0, .ref 4), (1, .int sv), (2, .int nm), (3, .int (nI (m + 1))), (4, .int (nI i)), (5, .int 2), (6, .int v), (7, .int a)] [.int v, .int a, .int b, .int 2, .int (nI (m + 1)), .ref 4] h [] 4 hq rfl trivial (fun hq => ?_)
    refine xq_run hq rfl rfl (jn2_q hq) ?_
    rintro v4 h_v4 ⟨rfl, rfl⟩
    refine xq_run hq rfl rfl (rpl_q (d := (m + 1)) (by omega) (by omega) hq) ?_
    rintro v5 h5 ⟨rfl, rfl⟩
    rw [show (m + 1) - 1 = m from rfl]
    have hq : a_rq a_tb (xh_ui h 7 m (b &&& a)) := a_rq_ui hq
    refine xq_n 7 [0, 1, 2, 3, 4] [(0, .ref 4), (1, .int sv), (2, .int nm), (3, .int (nI (m + 1))), (4, .int ((nI i) + Int32.ofInt 1))] [] (xh_ui h 7 m (b &&& a)) [] 4 hq rfl trivial (fun hq => ?_)
    rw [show ((nI i) + Int32.ofInt 1) = nI (i + 1) from nI_1 _]
    exact K _ hq (fx_ui (ge) rfl) (ptx_f (S := fun c _ => Nat.beq c 7) (L := fN) (pt) (fx_ui fx_0 rfl) rfl (fun _ => rfl) (fun _ => rfl)) (⟨by rw [hm]; exact gx_s, stk_u (by omega) ss.2.2⟩)
set_option maxRecDepth 100000 in
set_option maxHeartbeats 4000000 in
theorem run_3 {g i m : Nat} {sv nm v a b : Int32} {P : cdL} {ρ : List Int32} {h hb : xh_H} {Q : Option Value → xh_H → Prop} (hq : a_rq a_tb h) (ge : fx F7 fN hb h) (pt : ptx h P) (hi : i < P.length) (l4 : P.length < 400) (hc : xg 0 h.2.1 5 i = 3 ∧ xg 0 h.2.1 6 i = v) (hm : ρ.length = m) (m64 : m + 2 ≤ 64) (ss : stk h (a :: b :: ρ)) (K : ∀ h', a_rq a_tb h' → fx F7 fN hb h' → ptx h' P → stk h' ((b ||| a) :: ρ) → xq g xi_X3_run xmi_X3_run 7 [(0, .ref 4), (1, .int sv), (2, .int nm), (3, .int (nI (m + 1))), (4, .int (nI (i + 1)))] [] h' Q) : xq (g + 1) xi_X3_run xmi_X3_run 7 [(0, .ref 4), (1, .int sv), (2, .int nm), (3, .int (nI (m + 2))), (4, .int (nI i))] [] h Q := by
  cases c1 : xe_c .ge (nI i) (nI (P.length)) with
  | true =>
    have z1 : i ≥ (P.length) := nq_get (a := i) (b := (P.length)) (by omega) (by omega) c1
    omega
  | false =>
    have z1 : i < (P.length) := nq_gef (a := i) (b := (P.length)) (by omega) (by omega) c1
    refine xq_m 121 [0, 1, 2, 3, 4, 5, 6] [(0, .ref 4), (1, .int sv), (2, .int nm), (3, .int (nI (m + 2))), (4, .int (nI i)), (5, .int (xg 0 h.2.1 5 ((nI i).toNatClampNeg))), (6, .int (xg 0 h.2.1 6 ((nI i).toNatClampNeg)))] [.int (nI (m + 2)), .ref 4] h [false, false, false, true, true] 29 hq rfl ⟨(show xe_c .ge (nI i) (xg 0 h.2.1 4 3) = false by rw [show (xg 0 h.2.1 4 3) = (nI (P.length)) from pt.1]; exact c1), (show xe_c .eq (xg 0 h.2.1 5 ((nI i).toNatClampNeg)) 0 = false by rw [show (xg 0 h.2.1 5 ((nI i).toNatClampNeg)) = 3 from (by rw [show ((nI i).toNatClampNeg) = i from nI_clamp (by omega)]; exact hc.1)]; rfl), (show xe_c .eq (xg 0 h.2.1 5 ((nI i).toNatClampNeg)) (Int32.ofInt 1) = false by rw [show (xg 0 h.2.1 5 ((nI i).toNatClampNeg)) = 3 from (by rw [show ((nI i).toNatClampNeg) = i from nI_clamp (by omega)]; exact hc.1)]; rfl), (show xe_c .ne (xg 0 h.2.1 5 ((nI i).toNatClampNeg)) (Int32.ofInt 4) = true by rw [show (xg 0 h.2.1 5 ((nI i).toNatClampNeg)) = 3 from (by rw [show ((nI i).toNatClampNeg) = i from nI_clamp (by omega)]; exact hc.1)]; rfl), (show xe_c .ne (xg 0 h.2.1 5 ((nI i).toNatClampNeg)) 6 = true by rw [show (xg 0 h.2.1 5 ((nI i).toNatClampNeg)) = 3 from (by rw [show ((nI i).toNatClampNeg) = i from nI_clamp (by omega)]; exact hc.1)]; rfl), trivial⟩ (fun hq => ?_)
    rw [show (xg 0 h.2.1 5 ((nI i).toNatClampNeg)) = 3 from (by rw [show ((nI i).toNatClampNeg) = i from nI_clamp (by omega)]; exact hc.1)]
    rw [show (xg 0 h.2.1 6 ((nI i).toNatClampNeg)) = v from (by rw [show ((nI i).toNatClampNeg) = i from nI_clamp (by omega)]; exact hc.2)]
    refine xq_run hq rfl rfl (pek_q (d := (m + 2)) (by omega) (by omega) hq) ?_
    rintro v2 h2 ⟨rfl, rfl⟩
    rw [show xg 0 h.2.1 7 ((m + 2) - 1) = a from ((hm ▸ ss.1))]
    refine xq_n 153 [0, 1, 2, 3, 4, 5, 6, 7] [(0, .ref 4), (1, .int sv), (2, .int nm), (3, .int ((nI (m + 2)) + Int32.ofInt (-1))), (4, .int (nI i)), (5, .int 3), (6, .int v), (7, .int a)] [.int ((nI (m + 2)) + Int32.ofInt (-1)), .ref 4, .int 3, .int ((nI (m + 2)) + Int32.ofInt (-1)), .ref 4] h [true] 12 hq rfl ⟨(by decide), trivial⟩ (fun hq => ?_)
    rw [show ((nI (m + 2)) + Int32.ofInt (-1)) = nI (m + 1) from nI_d2]
    refine xq_run hq rfl rfl (pek_q (d := (m + 1)) (by omega) (by omega) hq) ?_
    rintro v3 h3 ⟨rfl, rfl⟩
    rw [show xg 0 h.2.1 7 ((m + 1) - 1) = b from ((hm ▸ ss.2.1))]
    refine xq_n 160 [0, 1, 2, 3, 4, 5, 6, 7] [(0, .ref 4), (1, .int sv), (2, .int nm), (3, .int (nI (m + 1))), (4, .int (nI i)), (5, .int 3), (6, .int v), (7, .int a)] [.int v, .int a, .int b, .int 3, .int (nI (m + 1)), .ref 4] h [] 4 hq rfl trivial (fun hq => ?_)
    refine xq_run hq rfl rfl (jn3_q hq) ?_
    rintro v4 h_v4 ⟨rfl, rfl⟩
    refine xq_run hq rfl rfl (rpl_q (d := (m + 1)) (by omega) (by omega) hq) ?_
    rintro v5 h5 ⟨rfl, rfl⟩
    rw [show (m + 1) - 1 = m from rfl]
    have hq : a_rq a_tb (xh_ui h 7 m (b ||| a)) := a_rq_ui hq
    refine xq_n 7 [0, 1, 2, 3, 4] [(0, .ref 4), (1, .int sv), (2, .int nm), (3, .int (nI (m + 1))), (4, .int ((nI i) + Int32.ofInt 1))] [] (xh_ui h 7 m (b ||| a)) [] 4 hq rfl trivial (fun hq => ?_)
    rw [show ((nI i) + Int32.ofInt 1) = nI (i + 1) from nI_1 _]
    exact K _ hq (fx_ui (ge) rfl) (ptx_f (S := fun c _ => Nat.beq c 7) (L := fN) (pt) (fx_ui fx_0 rfl) rfl (fun _ => rfl) (fun _ => rfl)) (⟨by rw [hm]; exact gx_s, stk_u (by omega) ss.2.2⟩)
set_option maxRecDepth 100000 in
set_option maxHeartbeats 4000000 in
theorem run_5 {g i m : Nat} {sv nm v a b : Int32} {P : cdL} {ρ : List Int32} {h hb : xh_H} {Q : Option Value → xh_H → Prop} (hq : a_rq a_tb h) (ge : fx F7 fN hb h) (pt : ptx h P) (hi : i < P.length) (l4 : P.length < 400) (hc : xg 0 h.2.1 5 i = 5 ∧ xg 0 h.2.1 6 i = v) (hm : ρ.length = m) (m64 : m + 2 ≤ 64) (ss : stk h (a :: b :: ρ)) (K : ∀ h', a_rq a_tb h' → fx F7 fN hb h' → ptx h' P → stk h' ((b + a * v) :: ρ) → xq g xi_X3_run xmi_X3_run 7 [(0, .ref 4), (1, .int sv), (2, .int nm), (3, .int (nI (m + 1))), (4, .int (nI (i + 1)))] [] h' Q) : xq (g + 1) xi_X3_run xmi_X3_run 7 [(0, .ref 4), (1, .int sv), (2, .int nm), (3, .int (nI (m + 2))), (4, .int (nI i))] [] h Q := by
  cases c1 : xe_c .ge (nI i) (nI (P.length)) with
  | true =>
    have z1 : i ≥ (P.length) := nq_get (a := i) (b := (P.length)) (by omega) (by omega) c1
    omega
  | false =>
    have z1 : i < (P.length) := nq_gef (a := i) (b := (P.length)) (by omega) (by omega) c1
    refine xq_m 121 [0, 1, 2, 3, 4, 5, 6] [(0, .ref 4), (1, .int sv), (2, .int nm), (3, .int (nI (m + 2))), (4, .int (nI i)), (5, .int (xg 0 h.2.1 5 ((nI i).toNatClampNeg))), (6, .int (xg 0 h.2.1 6 ((nI i).toNatClampNeg)))] [.int (nI (m + 2)), .ref 4] h [false, false, false, true, true] 29 hq rfl ⟨(show xe_c .ge (nI i) (xg 0 h.2.1 4 3) = false by rw [show (xg 0 h.2.1 4 3) = (nI (P.length)) from pt.1]; exact c1), (show xe_c .eq (xg 0 h.2.1 5 ((nI i).toNatClampNeg)) 0 = false by rw [show (xg 0 h.2.1 5 ((nI i).toNatClampNeg)) = 5 from (by rw [show ((nI i).toNatClampNeg) = i from nI_clamp (by omega)]; exact hc.1)]; rfl), (show xe_c .eq (xg 0 h.2.1 5 ((nI i).toNatClampNeg)) (Int32.ofInt 1) = false by rw [show (xg 0 h.2.1 5 ((nI i).toNatClampNeg)) = 5 from (by rw [show ((nI i).toNatClampNeg) = i from nI_clamp (by omega)]; exact hc.1)]; rfl), (show xe_c .ne (xg 0 h.2.1 5 ((nI i).toNatClampNeg)) (Int32.ofInt 4) = true by rw [show (xg 0 h.2.1 5 ((nI i).toNatClampNeg)) = 5 from (by rw [show ((nI i).toNatClampNeg) = i from nI_clamp (by omega)]; exact hc.1)]; rfl), (show xe_c .ne (xg 0 h.2.1 5 ((nI i).toNatClampNeg)) 6 = true by rw [show (xg 0 h.2.1 5 ((nI i).toNatClampNeg)) = 5 from (by rw [show ((nI i).toNatClampNeg) = i from nI_clamp (by omega)]; exact hc.1)]; rfl), trivial⟩ (fun hq => ?_)
    rw [show (xg 0 h.2.1 5 ((nI i).toNatClampNeg)) = 5 from (by rw [show ((nI i).toNatClampNeg) = i from nI_clamp (by omega)]; exact hc.1)]
    rw [show (xg 0 h.2.1 6 ((nI i).toNatClampNeg)) = v from (by rw [show ((nI i).toNatClampNeg) = i from nI_clamp (by omega)]; exact hc.2)]
    refine xq_run hq rfl rfl (pek_q (d := (m + 2)) (by omega) (by omega) hq) ?_
    rintro v2 h2 ⟨rfl, rfl⟩
    rw [show xg 0 h.2.1 7 ((m + 2) - 1) = a from ((hm ▸ ss.1))]
    refine xq_n 153 [0, 1, 2, 3, 4, 5, 6, 7] [(0, .ref 4), (1, .int sv), (2, .int nm), (3, .int ((nI (m + 2)) + Int32.ofInt (-1))), (4, .int (nI i)), (5, .int 5), (6, .int v), (7, .int a)] [.int ((nI (m + 2)) + Int32.ofInt (-1)), .ref 4, .int 5, .int ((nI (m + 2)) + Int32.ofInt (-1)), .ref 4] h [true] 12 hq rfl ⟨(by decide), trivial⟩ (fun hq => ?_)
    rw [show ((nI (m + 2)) + Int32.ofInt (-1)) = nI (m + 1) from nI_d2]
    refine xq_run hq rfl rfl (pek_q (d := (m + 1)) (by omega) (by omega) hq) ?_
    rintro v3 h3 ⟨rfl, rfl⟩
    rw [show xg 0 h.2.1 7 ((m + 1) - 1) = b from ((hm ▸ ss.2.1))]
    refine xq_n 160 [0, 1, 2, 3, 4, 5, 6, 7] [(0, .ref 4), (1, .int sv), (2, .int nm), (3, .int (nI (m + 1))), (4, .int (nI i)), (5, .int 5), (6, .int v), (7, .int a)] [.int v, .int a, .int b, .int 5, .int (nI (m + 1)), .ref 4] h [] 4 hq rfl trivial (fun hq => ?_)
    refine xq_run hq rfl rfl (jn5_q hq) ?_
    rintro v4 h_v4 ⟨rfl, rfl⟩
    refine xq_run hq rfl rfl (rpl_q (d := (m + 1)) (by omega) (by omega) hq) ?_
    rintro v5 h5 ⟨rfl, rfl⟩
    rw [show (m + 1) - 1 = m from rfl]
    have hq : a_rq a_tb (xh_ui h 7 m (b + a * v)) := a_rq_ui hq
    refine xq_n 7 [0, 1, 2, 3, 4] [(0, .ref 4), (1, .int sv), (2, .int nm), (3, .int (nI (m + 1))), (4, .int ((nI i) + Int32.ofInt 1))] [] (xh_ui h 7 m (b + a * v)) [] 4 hq rfl trivial (fun hq => ?_)
    rw [show ((nI i) + Int32.ofInt 1) = nI (i + 1) from nI_1 _]
    exact K _ hq (fx_ui (ge) rfl) (ptx_f (S := fun c _ => Nat.beq c 7) (L := fN) (pt) (fx_ui fx_0 rfl) rfl (fun _ => rfl) (fun _ => rfl)) (⟨by rw [hm]; exact gx_s, stk_u (by omega) ss.2.2⟩)
set_option maxRecDepth 100000 in
set_option maxHeartbeats 4000000 in
theorem run_6 {g i m : Nat} {sv nm v a : Int32} {P : cdL} {ρ : List Int32} {h hb : xh_H} {Q : Option Value → xh_H → Prop} (hq : a_rq a_tb h) (ge : fx F7 fN hb h) (pt : ptx h P) (hi : i < P.length) (l4 : P.length < 400) (hc : xg 0 h.2.1 5 i = 6 ∧ xg 0 h.2.1 6 i = v) (hm : ρ.length = m) (m64 : m + 1 ≤ 64) (ss : stk h (a :: ρ)) (K : ∀ h', a_rq a_tb h' → fx F7 fN hb h' → ptx h' P → stk h' (bl (xe_c .ge a v) :: ρ) → xq g xi_X3_run xmi_X3_run 7 [(0, .ref 4), (1, .int sv), (2, .int nm), (3, .int (nI (m + 1))), (4, .int (nI (i + 1)))] [] h' Q) : xq (g + 1) xi_X3_run xmi_X3_run 7 [(0, .ref 4), (1, .int sv), (2, .int nm), (3, .int (nI (m + 1))), (4, .int (nI i))] [] h Q := by
  cases c1 : xe_c .ge (nI i) (nI (P.length)) with
  | true =>
    have z1 : i ≥ (P.length) := nq_get (a := i) (b := (P.length)) (by omega) (by omega) c1
    omega
  | false =>
    have z1 : i < (P.length) := nq_gef (a := i) (b := (P.length)) (by omega) (by omega) c1
    refine xq_m 100 [0, 1, 2, 3, 4, 5, 6] [(0, .ref 4), (1, .int sv), (2, .int nm), (3, .int (nI (m + 1))), (4, .int (nI i)), (5, .int (xg 0 h.2.1 5 ((nI i).toNatClampNeg))), (6, .int (xg 0 h.2.1 6 ((nI i).toNatClampNeg)))] [.int (nI (m + 1)), .ref 4, .int (nI (m + 1)), .ref 4] h [false, false, false, true, false] 31 hq rfl ⟨(show xe_c .ge (nI i) (xg 0 h.2.1 4 3) = false by rw [show (xg 0 h.2.1 4 3) = (nI (P.length)) from pt.1]; exact c1), (show xe_c .eq (xg 0 h.2.1 5 ((nI i).toNatClampNeg)) 0 = false by rw [show (xg 0 h.2.1 5 ((nI i).toNatClampNeg)) = 6 from (by rw [show ((nI i).toNatClampNeg) = i from nI_clamp (by omega)]; exact hc.1)]; rfl), (show xe_c .eq (xg 0 h.2.1 5 ((nI i).toNatClampNeg)) (Int32.ofInt 1) = false by rw [show (xg 0 h.2.1 5 ((nI i).toNatClampNeg)) = 6 from (by rw [show ((nI i).toNatClampNeg) = i from nI_clamp (by omega)]; exact hc.1)]; rfl), (show xe_c .ne (xg 0 h.2.1 5 ((nI i).toNatClampNeg)) (Int32.ofInt 4) = true by rw [show (xg 0 h.2.1 5 ((nI i).toNatClampNeg)) = 6 from (by rw [show ((nI i).toNatClampNeg) = i from nI_clamp (by omega)]; exact hc.1)]; rfl), (show xe_c .ne (xg 0 h.2.1 5 ((nI i).toNatClampNeg)) 6 = false by rw [show (xg 0 h.2.1 5 ((nI i).toNatClampNeg)) = 6 from (by rw [show ((nI i).toNatClampNeg) = i from nI_clamp (by omega)]; exact hc.1)]; rfl), trivial⟩ (fun hq => ?_)
    rw [show (xg 0 h.2.1 5 ((nI i).toNatClampNeg)) = 6 from (by rw [show ((nI i).toNatClampNeg) = i from nI_clamp (by omega)]; exact hc.1)]
    rw [show (xg 0 h.2.1 6 ((nI i).toNatClampNeg)) = v from (by rw [show ((nI i).toNatClampNeg) = i from nI_clamp (by omega)]; exact hc.2)]
    refine xq_run hq rfl rfl (pek_q (d := (m + 1)) (by omega) (by omega) hq) ?_
    rintro v2 h2 ⟨rfl, rfl⟩
    rw [show xg 0 h.2.1 7 ((m + 1) - 1) = a from ((hm ▸ ss.1))]
    cases c3 : xe_c .lt a v with
    | true =>
      refine xq_n 113 [0, 1, 2, 3, 4, 5, 6] [(0, .ref 4), (1, .int sv), (2, .int nm), (3, .int (nI (m + 1))), (4, .int (nI i)), (5, .int 6), (6, .int v)] [.int (Int32.ofInt 0), .int (nI (m + 1)), .ref 4] h [true] 5 hq rfl ⟨c3, trivial⟩ (fun hq => ?_)
      refine xq_run hq rfl rfl (rpl_q (d := (m + 1)) (by omega) (by omega) hq) ?_
      rintro v4 h4 ⟨rfl, rfl⟩
      rw [show (m + 1) - 1 = m from rfl]
      have hq : a_rq a_tb (xh_ui h 7 m (Int32.ofInt 0)) := a_rq_ui hq
      refine xq_n 7 [0, 1, 2, 3, 4] [(0, .ref 4), (1, .int sv), (2, .int nm), (3, .int (nI (m + 1))), (4, .int ((nI i) + Int32.ofInt 1))] [] (xh_ui h 7 m (Int32.ofInt 0)) [] 5 hq rfl trivial (fun hq => ?_)
      rw [show ((nI i) + Int32.ofInt 1) = nI (i + 1) from nI_1 _]
      exact K _ hq (fx_ui (ge) rfl) (ptx_f (S := fun c _ => Nat.beq c 7) (L := fN) (pt) (fx_ui fx_0 rfl) rfl (fun _ => rfl) (fun _ => rfl)) (⟨by rw [hm]; exact (gx_s).trans (b_g1 c3), stk_u (by omega) ss.2⟩)
    | false =>
      refine xq_n 113 [0, 1, 2, 3, 4, 5, 6] [(0, .ref 4), (1, .int sv), (2, .int nm), (3, .int (nI (m + 1))), (4, .int (nI i)), (5, .int 6), (6, .int v)] [.int (Int32.ofInt 1), .int (nI (m + 1)), .ref 4] h [false] 6 hq rfl ⟨c3, trivial⟩ (fun hq => ?_)
      refine xq_run hq rfl rfl (rpl_q (d := (m + 1)) (by omega) (by omega) hq) ?_
      rintro v5 h5 ⟨rfl, rfl⟩
      rw [show (m + 1) - 1 = m from rfl]
      have hq : a_rq a_tb (xh_ui h 7 m (Int32.ofInt 1)) := a_rq_ui hq
      refine xq_n 7 [0, 1, 2, 3, 4] [(0, .ref 4), (1, .int sv), (2, .int nm), (3, .int (nI (m + 1))), (4, .int ((nI i) + Int32.ofInt 1))] [] (xh_ui h 7 m (Int32.ofInt 1)) [] 5 hq rfl trivial (fun hq => ?_)
      rw [show ((nI i) + Int32.ofInt 1) = nI (i + 1) from nI_1 _]
      exact K _ hq (fx_ui (ge) rfl) (ptx_f (S := fun c _ => Nat.beq c 7) (L := fN) (pt) (fx_ui fx_0 rfl) rfl (fun _ => rfl) (fun _ => rfl)) (⟨by rw [hm]; exact (gx_s).trans (b_g2 c3), stk_u (by omega) ss.2⟩)
set_option maxRecDepth 100000 in
set_option maxHeartbeats 4000000 in
theorem run_7 {g i m : Nat} {sv nm v a : Int32} {P : cdL} {ρ : List Int32} {h hb : xh_H} {Q : Option Value → xh_H → Prop} (hq : a_rq a_tb h) (ge : fx F7 fN hb h) (pt : ptx h P) (hi : i < P.length) (l4 : P.length < 400) (hc : xg 0 h.2.1 5 i = 7 ∧ xg 0 h.2.1 6 i = v) (hm : ρ.length = m) (m64 : m + 1 ≤ 64) (ss : stk h (a :: ρ)) (K : ∀ h', a_rq a_tb h' → fx F7 fN hb h' → ptx h' P → stk h' (ρ) → xq g xi_X3_run xmi_X3_run 7 [(0, .ref 4), (1, .int sv), (2, .int (nm ||| (a <<< (v &&& 31)))), (3, .int (nI m)), (4, .int (nI (i + 1)))] [] h' Q) : xq (g + 1) xi_X3_run xmi_X3_run 7 [(0, .ref 4), (1, .int sv), (2, .int nm), (3, .int (nI (m + 1))), (4, .int (nI i))] [] h Q := by
  cases c1 : xe_c .ge (nI i) (nI (P.length)) with
  | true =>
    have z1 : i ≥ (P.length) := nq_get (a := i) (b := (P.length)) (by omega) (by omega) c1
    omega
  | false =>
    have z1 : i < (P.length) := nq_gef (a := i) (b := (P.length)) (by omega) (by omega) c1
    refine xq_m 121 [0, 1, 2, 3, 4, 5, 6] [(0, .ref 4), (1, .int sv), (2, .int nm), (3, .int (nI (m + 1))), (4, .int (nI i)), (5, .int (xg 0 h.2.1 5 ((nI i).toNatClampNeg))), (6, .int (xg 0 h.2.1 6 ((nI i).toNatClampNeg)))] [.int (nI (m + 1)), .ref 4] h [false, false, false, true, true] 29 hq rfl ⟨(show xe_c .ge (nI i) (xg 0 h.2.1 4 3) = false by rw [show (xg 0 h.2.1 4 3) = (nI (P.length)) from pt.1]; exact c1), (show xe_c .eq (xg 0 h.2.1 5 ((nI i).toNatClampNeg)) 0 = false by rw [show (xg 0 h.2.1 5 ((nI i).toNatClampNeg)) = 7 from (by rw [show ((nI i).toNatClampNeg) = i from nI_clamp (by omega)]; exact hc.1)]; rfl), (show xe_c .eq (xg 0 h.2.1 5 ((nI i).toNatClampNeg)) (Int32.ofInt 1) = false by rw [show (xg 0 h.2.1 5 ((nI i).toNatClampNeg)) = 7 from (by rw [show ((nI i).toNatClampNeg) = i from nI_clamp (by omega)]; exact hc.1)]; rfl), (show xe_c .ne (xg 0 h.2.1 5 ((nI i).toNatClampNeg)) (Int32.ofInt 4) = true by rw [show (xg 0 h.2.1 5 ((nI i).toNatClampNeg)) = 7 from (by rw [show ((nI i).toNatClampNeg) = i from nI_clamp (by omega)]; exact hc.1)]; rfl), (show xe_c .ne (xg 0 h.2.1 5 ((nI i).toNatClampNeg)) 6 = true by rw [show (xg 0 h.2.1 5 ((nI i).toNatClampNeg)) = 7 from (by rw [show ((nI i).toNatClampNeg) = i from nI_clamp (by omega)]; exact hc.1)]; rfl), trivial⟩ (fun hq => ?_)
    rw [show (xg 0 h.2.1 5 ((nI i).toNatClampNeg)) = 7 from (by rw [show ((nI i).toNatClampNeg) = i from nI_clamp (by omega)]; exact hc.1)]
    rw [show (xg 0 h.2.1 6 ((nI i).toNatClampNeg)) = v from (by rw [show ((nI i).toNatClampNeg) = i from nI_clamp (by omega)]; exact hc.2)]
    refine xq_run hq rfl rfl (pek_q (d := (m + 1)) (by omega) (by omega) hq) ?_
    rintro v2 h2 ⟨rfl, rfl⟩
    rw [show xg 0 h.2.1 7 ((m + 1) - 1) = a from ((hm ▸ ss.1))]
    refine xq_n 7 [0, 1, 2, 3, 4] [(0, .ref 4), (1, .int sv), (2, .int (nm ||| (a <<< (v &&& 31)))), (3, .int ((nI (m + 1)) + Int32.ofInt (-1))), (4, .int ((nI i) + Int32.ofInt 1))] [] h [false] 16 hq rfl ⟨(by decide), trivial⟩ (fun hq => ?_)
    rw [show ((nI (m + 1)) + Int32.ofInt (-1)) = nI m from nI_dec m]
    rw [show ((nI i) + Int32.ofInt 1) = nI (i + 1) from nI_1 _]
    exact K _ hq (ge) (pt) (ss.2)
set_option maxRecDepth 100000 in
set_option maxHeartbeats 4000000 in
theorem run_lp {sv y nme : Int32} {P : cdL} {hb : xh_H} (l4 : P.length < 400) : ∀ (f i : Nat) (σ : List Int32) (nm : Int32) (h : xh_H), a_rq a_tb h → fx F7 fN hb h → ptx h P → i ≤ P.length → σ.length ≤ 64 → stk h σ → px sv (P.drop i) (σ, nm) = some ([y], nme) → xq f xi_X3_run xmi_X3_run 7 [(0, .ref 4), (1, .int sv), (2, .int nm), (3, .int (nI σ.length)), (4, .int (nI i))] [] h (fun v h' => fx F7 fN hb h' ∧ v = some (.int (bl (!decide (y = 0))))) := by
  intro f
  induction f with
  | zero => intros; exact xq_0
  | succ f ih =>
    intro i σ nm h hq ge pt hi l64 ss hp
    by_cases e : i = P.length
    · rw [e, List.drop_length] at hp
      have hp : (σ, nm) = ([y], nme) := Option.some.inj hp
      cases hp
      refine xq_m 174 [0, 3] [(0, .ref 4), (3, .int (nI 1))] [.int (nI 1), .ref 4] h [true] 7 hq rfl ⟨(show xe_c .ge (nI i) (xg 0 h.2.1 4 3) = true by rw [pt.1]; exact decide_eq_true (by rw [e]; exact Int32.le_refl _)), trivial⟩ (fun hq => ?_)
      refine xq_run hq rfl rfl (pek_q (d := 1) (by decide) (by decide) hq) ?_
      rintro v h1 ⟨rfl, rfl⟩
      rw [show xg 0 h.2.1 7 (1 - 1) = y from ss.1]
      by_cases z : y = 0
      · refine xq_n 185 [] [] [.int (Int32.ofInt 0)] h [true] 4 hq rfl ⟨decide_eq_true z, trivial⟩ (fun hq => ?_)
        exact xq_ret rfl rfl rfl ⟨ge, by rw [decide_eq_true z]; rfl⟩
      · refine xq_n 185 [] [] [.int (Int32.ofInt 1)] h [false] 5 hq rfl ⟨decide_eq_false z, trivial⟩ (fun hq => ?_)
        exact xq_ret rfl rfl rfl ⟨ge, by rw [decide_eq_false z]; rfl⟩
    · have hi : i < P.length := by omega
      rw [List.drop_eq_getElem_cons hi] at hp
      obtain ⟨w, h1, h2⟩ := px_c hp
      have hc := pt.2 i hi
      generalize hw : P[i] = q at h1 hc
      obtain ⟨c, v⟩ := q
      rcases px1_i h1 with ⟨rfl, m64, rfl⟩ | ⟨rfl, m64, rfl⟩ | ⟨rfl, m64, rfl⟩ | ⟨a, b, ρ, rfl, ⟨rfl, rfl⟩ | ⟨rfl, rfl⟩ | ⟨rfl, rfl⟩⟩ | ⟨a, ρ, rfl, ⟨rfl, rfl⟩ | ⟨rfl, rfl⟩⟩
      · have r := fun (h' : xh_H) (hq : a_rq a_tb h') (ge : fx F7 fN hb h') (pt : ptx h' P) => fun hl ss => ih (i + 1) _ _ h' hq ge pt hi hl ss h2
        exact run_0 (σ := σ) hq ge pt hi l4 hc rfl m64 ss (fun h' hq ge pt ss => r h' hq ge pt (by show σ.length + 1 ≤ 64; omega) ss)
      · have r := fun (h' : xh_H) (hq : a_rq a_tb h') (ge : fx F7 fN hb h') (pt : ptx h' P) => fun hl ss => ih (i + 1) _ _ h' hq ge pt hi hl ss h2
        exact run_1 (σ := σ) hq ge pt hi l4 hc rfl m64 ss (fun h' hq ge pt ss => r h' hq ge pt (by show σ.length + 1 ≤ 64; omega) ss)
      · have r := fun (h' : xh_H) (hq : a_rq a_tb h') (ge : fx F7 fN hb h') (pt : ptx h' P) => fun hl ss => ih (i + 1) _ _ h' hq ge pt hi hl ss h2
        exact run_4 (σ := σ) hq ge pt hi l4 hc rfl m64 ss (fun h' hq ge pt ss => r h' hq ge pt (by show σ.length + 1 ≤ 64; omega) ss)
      · have r := fun (h' : xh_H) (hq : a_rq a_tb h') (ge : fx F7 fN hb h') (pt : ptx h' P) => fun hl ss => ih (i + 1) _ _ h' hq ge pt hi hl ss h2
        exact run_2 (ρ := ρ) hq ge pt hi l4 hc rfl l64 ss (fun h' hq ge pt ss => r h' hq ge pt (by have l64 : ρ.length + 2 ≤ 64 := l64; show ρ.length + 1 ≤ 64; omega) ss)
      · have r := fun (h' : xh_H) (hq : a_rq a_tb h') (ge : fx F7 fN hb h') (pt : ptx h' P) => fun hl ss => ih (i + 1) _ _ h' hq ge pt hi hl ss h2
        exact run_3 (ρ := ρ) hq ge pt hi l4 hc rfl l64 ss (fun h' hq ge pt ss => r h' hq ge pt (by have l64 : ρ.length + 2 ≤ 64 := l64; show ρ.length + 1 ≤ 64; omega) ss)
      · have r := fun (h' : xh_H) (hq : a_rq a_tb h') (ge : fx F7 fN hb h') (pt : ptx h' P) => fun hl ss => ih (i + 1) _ _ h' hq ge pt hi hl ss h2
        exact run_5 (ρ := ρ) hq ge pt hi l4 hc rfl l64 ss (fun h' hq ge pt ss => r h' hq ge pt (by have l64 : ρ.length + 2 ≤ 64 := l64; show ρ.length + 1 ≤ 64; omega) ss)
      · have r := fun (h' : xh_H) (hq : a_rq a_tb h') (ge : fx F7 fN hb h') (pt : ptx h' P) => fun hl ss => ih (i + 1) _ _ h' hq ge pt hi hl ss h2
        exact run_6 (ρ := ρ) hq ge pt hi l4 hc rfl l64 ss (fun h' hq ge pt ss => r h' hq ge pt (by have l64 : ρ.length + 1 ≤ 64 := l64; show ρ.length + 1 ≤ 64; omega) ss)
      · have r := fun (h' : xh_H) (hq : a_rq a_tb h') (ge : fx F7 fN hb h') (pt : ptx h' P) => fun hl ss => ih (i + 1) _ _ h' hq ge pt hi hl ss h2
        exact run_7 (ρ := ρ) hq ge pt hi l4 hc rfl l64 ss (fun h' hq ge pt ss => r h' hq ge pt (by have l64 : ρ.length + 1 ≤ 64 := l64; omega) ss)
set_option maxRecDepth 100000 in
/-- Program.run -/
theorem run_q {f sv : Nat} {y : Bool} {nme : Int32} {P : cdL} {h : xh_H} (l4 : P.length < 400) (pt : ptx h P) (hp : px (nI sv) P ([], nI 0) = some ([bl y], nme)) (hq : a_rq a_tb h) : xq f xi_X3_run xmi_X3_run 0 [(0, .ref 4), (1, .int (nI sv))] [] h (fun v h' => fx F7 fN h h' ∧ v = some (.int (bl y))) := by
  refine xq_n 7 [0, 1, 2, 3, 4] [(0, .ref 4), (1, .int (nI sv)), (2, .int (Int32.ofInt 0)), (3, .int (Int32.ofInt 0)), (4, .int (Int32.ofInt 0))] [] h [] 8 hq rfl trivial (fun hq => ?_)
  refine xq_mono (run_lp l4 f 0 [] (nI 0) h hq fx_0 pt (Nat.zero_le _) (by decide) trivial (by rw [List.drop_zero]; exact hp)) (fun v h' e => ⟨e.1, e.2.trans ?_⟩)
  cases y <;> rfl
end XRU
end
section
section XFI
def lb (w : Int64) (k : Nat) : Bool := !(decide (lg_cmp ((w.toUInt64 >>> ((nI k).toInt64.toUInt64 &&& Int64.toUInt64 63)).toInt64 &&& 1) 0 = 0))
theorem sh64 : ∀ k, k < 64 → (nI k).toInt64.toUInt64 &&& Int64.toUInt64 63 = UInt64.ofNat k := by decide +kernel
theorem sh64i : ∀ k, k < 64 → ((nI k).toInt64 &&& 63 : Int64) = Int64.ofNat k := by decide +kernel
theorem lb_g {w : Int64} {k : Nat} (hk : k < 64) : lb w k = w.toBitVec.getLsbD k := by
  unfold lb
  rw [sh64 k hk]
  have e : ((w.toUInt64 >>> UInt64.ofNat k).toInt64 &&& 1).toBitVec = (w.toBitVec >>> k) &&& 1#64 := by
    have : k % 64 = k := Nat.mod_eq_of_lt hk
    have h2 : k % 18446744073709551616 % 64 = k := by omega
    simp [Int64.toBitVec_and, UInt64.toBitVec_shiftRight, h2, this]
  cases h : w.toBitVec.getLsbD k with
  | false =>
    have : ((w.toUInt64 >>> UInt64.ofNat k).toInt64 &&& 1) = 0 := by
      apply Int64.toBitVec_inj.mp
      rw [e]
      apply BitVec.eq_of_getLsbD_eq
      intro i hi
      rw [BitVec.getLsbD_and, BitVec.getLsbD_ushiftRight, BitVec.getLsbD_one]
      by_cases z : i = 0
      · subst z
        rw [Nat.add_zero, h]
        rfl
      · simp [z]
    rw [decide_eq_true (lg0.mpr this)]
    rfl
  | true =>
    have : ((w.toUInt64 >>> UInt64.ofNat k).toInt64 &&& 1) ≠ 0 := by
      intro z
      have z2 := congrArg (fun x => x.toBitVec.getLsbD 0) z
      simp only [e, BitVec.getLsbD_and, BitVec.getLsbD_ushiftRight, BitVec.getLsbD_one, Nat.add_zero, h] at z2
      exact absurd z2 (by decide)
    rw [decide_eq_false (fun y => this (lg0.mp y))]
    rfl
theorem lb_0 {k : Nat} (hk : k < 64) : lb 0 k = false := by
  rw [lb_g hk]
  exact BitVec.getLsbD_zero
theorem lb_or {w : Int64} {j k : Nat} (hj : j < 64) (hk : k < 64) : lb (w ||| (1 <<< ((nI j).toInt64 &&& 63))) k = (lb w k || decide (j = k)) := by
  rw [lb_g hk, lb_g hk, sh64i j hj]
  have e : (w ||| (1 <<< Int64.ofNat j)).toBitVec = w.toBitVec ||| (1#64 <<< j) := by
    have h2 : (Int64.ofNat j).toBitVec.smod 64 = BitVec.ofNat 64 j := by
      revert hj; revert j
      decide +kernel
    have h3 : (BitVec.ofNat 64 j).toNat = j := by simp; omega
    rw [Int64.toBitVec_or, Int64.toBitVec_shiftLeft, h2]
    rw [BitVec.shiftLeft_eq', h3]
    rfl
  rw [e, BitVec.getLsbD_or, BitVec.getLsbD_shiftLeft, BitVec.getLsbD_one]
  by_cases z : j = k
  · subst z
    simp [hj]
  · rw [show decide (j = k) = false from decide_eq_false z]
    congr 1
    by_cases y : k < j
    · simp [y]
    · simp [y]; omega
theorem hv_lb {h : xh_H} {r s : Nat} : hv h r s = lb (xg 0 h.2.2.1 r (s / 64)) (s % 64) := rfl
theorem xe_ls {c len pc nL rK ri d n ra rb : Nat} {lv : List (Nat × Value)} {q : List Value} {h : xh_H} {x : Int64} {i : Int32} (hs : h.1[c]? = some (4, n)) (hi : xe_in i n = true) : xe_2 none nL (.lastore, len, ra, rb, rK, ri) d pc lv (.long x :: .int i :: .ref c :: q) h 0 0 = some (pc + 1, lv, q, xh_ul h c i.toNatClampNeg x, 0, 0) := by
  simp [xe_2, xe_1, xp_lir, hs, hi]
set_option maxRecDepth 100000 in
set_option maxHeartbeats 4000000 in
/-- Statute.add -/
theorem ad_run {d q r s : Nat} {h : xh_H} (hrq : a_rq a_tb h) (hs : h.1[q]? = some (0, 7)) (hg : xg none h.2.2.2 q 1 = some r) (hr : h.1[r]? = some (4, 64)) (s12 : s < 4096) : xt_P d xi_X7_add xmi_X7_add 0 [(0, .ref q), (1, .int (nI s))] [] h (fun v h' => v = none ∧ h' = xh_ul h r (s / 64) ((xg 0 h.2.2.1 r (s / 64)) ||| (1 <<< ((nI (s % 64)).toInt64 &&& 63)))) := by
  have e6 : nI s >>> ((6 : Int32) &&& 31) = nI (s / 64) := nI_shr (a := s) (k := 6) (by omega) (by decide)
  have l6 : s / 64 < 64 := by omega
  have i6 := nI_toInt (n := s / 64) (by omega)
  have z0 : (0 : Int32).toInt = 0 := rfl
  have a63 : nI s &&& (63 : Int32) = nI (s % 64) := by
    rw [show (63 : Int32) = nI 63 from rfl, nI_and, show 63 = 2 ^ 6 - 1 from rfl, Nat.and_two_pow_sub_one_eq_mod]
  refine xa_tn 16 [1, 2] [(1, .int (nI s)), (2, .int ((nI s) >>> (6 &&& 31)))] [.ref q] h [false, false] 12 hrq rfl ⟨(show xe_c .lt ((nI s) >>> (6 &&& 31)) 0 = false by rw [e6]; exact xlt_f (by omega)), (show xe_c .ge ((nI s) >>> (6 &&& 31)) 64 = false by rw [e6]; exact nge_f (b := 64) (by omega) (by omega) l6), trivial⟩ (fun _ => ?_)
  rw [e6]
  refine xp_step rfl rfl (xe_gr hs rfl hg) ?_
  refine xa_tn 21 [1] [(1, .int (nI s))] [.int (nI (s / 64)), .ref r, .int (nI (s / 64)), .ref r] h [] 4 hrq rfl trivial (fun _ => ?_)
  refine xp_step rfl rfl (xe_la hr (xin_n l6 (by omega))) ?_
  rw [nI_clamp (by omega)]
  refine xa_tn 29 [] [] [.long ((xg 0 h.2.2.1 r (s / 64)) ||| (1 <<< (((nI s) &&& 63).toInt64 &&& 63))), .int (nI (s / 64)), .ref r] h [] 9 hrq rfl trivial (fun _ => ?_)
  rw [a63]
  refine xp_step rfl rfl (xe_ls hr (xin_n l6 (by omega))) ?_
  rw [nI_clamp (by omega)]
  exact xp_ret rfl rfl rfl ⟨rfl, rfl⟩
theorem hv_ad {h : xh_H} {r s t : Nat} (t12 : t < 4096) : hv (xh_ul h r (s / 64) ((xg 0 h.2.2.1 r (s / 64)) ||| (1 <<< ((nI (s % 64)).toInt64 &&& 63)))) r t = (hv h r t || decide (s = t)) := by
  rw [hv_lb, hv_lb]
  by_cases e : t / 64 = s / 64
  · rw [e, gl_s, lb_or (by omega) (by omega)]
    congr 1
    by_cases z : s % 64 = t % 64
    · rw [decide_eq_true z, decide_eq_true (show s = t by omega)]
    · rw [decide_eq_false z, decide_eq_false (fun y => z (by rw [y]))]
  · rw [gl_k e, decide_eq_false (fun y => e (by rw [y])), Bool.or_false]
def Lr (r c _k : Nat) : Bool := Nat.beq c r
theorem hv_f {S L : Nat → Nat → Bool} {h h' : xh_H} {r s : Nat} (g : fx S L h h') (e : ∀ k, L r k = false) : hv h' r s = hv h r s := by
  unfold hv
  rw [fx_l g (e _)]
set_option maxRecDepth 100000 in
set_option maxHeartbeats 4000000 in
theorem fl_lp {q r s mem : Nat} {P : cdL} {y : Bool} {h0 : xh_H} (m12 : mem ≤ 12) (s4 : s < 4096) (hs : h0.1[q]? = some (0, 7)) (hg : xg none h0.2.2.2 q 1 = some r) (hr : h0.1[r]? = some (4, 64)) (l4 : P.length < 400) (hP : ∀ sv, sv < 4096 → ∃ y nm, px (nI sv) P ([], nI 0) = some ([bl y], nm)) (hy : ∃ nm, px (nI s) P ([], nI 0) = some ([bl y], nm)) : ∀ (f i : Nat) (h : xh_H), a_rq a_tb h → fx F7 (Lr r) h0 h → ptx h P → i ≤ 2 ^ mem → hv h r s = (decide (s < i) && y) → xq f xi_X3_fill xmi_X3_fill 2 [(0, .ref 4), (1, .ref q), (2, .int (nI mem)), (3, .int (nI i))] [] h (fun v h' => v = none ∧ fx F7 (Lr r) h0 h' ∧ hv h' r s = (decide (s < 2 ^ mem) && y)) := by
  have p12 : 2 ^ mem ≤ 4096 := show 2 ^ mem ≤ 2 ^ 12 from Nat.pow_le_pow_right (by decide) m12
  intro f
  induction f with
  | zero => intros; exact xq_0
  | succ f ih =>
    intro i h hq ge pt i6 w
    cases c1 : xe_c .ge (nI i) (nI (2 ^ mem)) with
    | true =>
      have z1 : i ≥ (2 ^ mem) := nq_get (a := i) (b := (2 ^ mem)) (by omega) (by omega) c1
      refine xq_m 28 [] [] [] h [true] 7 hq rfl ⟨(show xe_c .ge (nI i) ((Int32.ofInt 1) <<< ((nI mem) &&& 31)) = true by rw [show ((Int32.ofInt 1) <<< ((nI mem) &&& 31)) = nI (2 ^ mem) from sh1 mem (by omega)]; exact c1), trivial⟩ (fun hq => ?_)
      exact xq_ret rfl rfl rfl ⟨rfl, ge, by rw [w, show i = 2 ^ mem by omega]⟩
    | false =>
      have z1 : i < (2 ^ mem) := nq_gef (a := i) (b := (2 ^ mem)) (by omega) (by omega) c1
      refine xq_m 11 [0, 1, 2, 3] [(0, .ref 4), (1, .ref q), (2, .int (nI mem)), (3, .int (nI i))] [.int (nI i), .ref 4] h [false] 9 hq rfl ⟨(show xe_c .ge (nI i) ((Int32.ofInt 1) <<< ((nI mem) &&& 31)) = false by rw [show ((Int32.ofInt 1) <<< ((nI mem) &&& 31)) = nI (2 ^ mem) from sh1 mem (by omega)]; exact c1), trivial⟩ (fun hq => ?_)
      obtain ⟨y2, nm2, hp2⟩ := hP i (by omega)
      refine xq_run hq rfl rfl (run_q l4 pt hp2 hq) ?_
      rintro v2 h2 ⟨g2, rfl⟩
      have hq := fx_q g2 hq
      have ge := fx_t ge (fx_w g2 (fun _ _ z => z) (fun _ _ _ => rfl))
      have pt := ptx_f pt g2 rfl (fun _ => rfl) (fun _ => rfl)
      have w : hv h2 r s = (decide (s < i) && y) := (hv_f g2 (fun _ => rfl)).trans w
      cases b3 : y2 with
      | true =>
        refine xq_n 19 [0, 1, 2, 3] [(0, .ref 4), (1, .ref q), (2, .int (nI mem)), (3, .int (nI i))] [.int (nI i), .ref q] h2 [false] 5 hq rfl ⟨rfl, trivial⟩ (fun hq => ?_)
        have hs' : h2.1[q]? = some (0, 7) := by rw [ge.1]; exact hs
        have hr' : h2.1[r]? = some (4, 64) := by rw [ge.1]; exact hr
        have hg' : xg none h2.2.2.2 q 1 = some r := by rw [ge.2.1]; exact hg
        refine xq_cr (As := [.ref q, .int (nI i)]) (mj := xmi_X7_add) (q := []) rfl rfl (fun _ _ => rfl) (xa_cs_ok (d := 0) (pc := 0) (lv := []) (nL := 0) hs' rfl).1 (fun f => xq_of (d := 0) ⟨_, rfl⟩ (ad_run hq hs' hg' hr' (by omega))) ?_
        rintro v4 h4 ⟨rfl, rfl⟩
        have hq : a_rq a_tb (xh_ul h2 r (i / 64) ((xg 0 h2.2.2.1 r (i / 64)) ||| (1 <<< ((nI (i % 64)).toInt64 &&& 63)))) := a_rq_ul hq
        refine xq_n 2 [0, 1, 2, 3] [(0, .ref 4), (1, .ref q), (2, .int (nI mem)), (3, .int ((nI i) + Int32.ofInt 1))] [] (xh_ul h2 r (i / 64) ((xg 0 h2.2.2.1 r (i / 64)) ||| (1 <<< ((nI (i % 64)).toInt64 &&& 63)))) [] 4 hq rfl trivial (fun hq => ?_)
        rw [show ((nI i) + Int32.ofInt 1) = nI (i + 1) from nI_1 _]
        refine ih (i + 1) _ hq (fx_ul ge (Nat.beq_refl r)) (ptx_f (S := fN) (L := Lr r) pt (fx_ul fx_0 (Nat.beq_refl r)) rfl (fun _ => rfl) (fun _ => rfl)) (by omega) ?_
        rw [hv_ad s4, w]
        by_cases e : i = s
        · obtain ⟨nm', hy'⟩ := hy
          rw [← e, hp2] at hy'
          have e3 := Option.some.inj hy'
          have e4 : bl y2 = bl y := by have e5 := congrArg (fun z => z.1) e3; exact (List.cons.inj e5).1
          have e6 : y = true := by rw [b3] at e4; cases y <;> first | rfl | exact absurd e4 (by decide)
          rw [e6, decide_eq_false (show ¬ s < i by omega), decide_eq_true (show s < i + 1 by omega), decide_eq_true e]; rfl
        · rw [decide_eq_false e, Bool.or_false]; by_cases z : s < i
          · rw [decide_eq_true z, decide_eq_true (show s < i + 1 by omega)]
          · rw [decide_eq_false z, decide_eq_false (show ¬ s < i + 1 by omega)]
      | false =>
        refine xq_n 2 [0, 1, 2, 3] [(0, .ref 4), (1, .ref q), (2, .int (nI mem)), (3, .int ((nI i) + Int32.ofInt 1))] [] h2 [true] 5 hq rfl ⟨rfl, trivial⟩ (fun hq => ?_)
        rw [show ((nI i) + Int32.ofInt 1) = nI (i + 1) from nI_1 _]
        refine ih (i + 1) _ hq ge pt (by omega) ?_
        rw [w]
        by_cases e : i = s
        · obtain ⟨nm', hy'⟩ := hy
          rw [← e, hp2] at hy'
          have e3 := Option.some.inj hy'
          have e4 : bl y2 = bl y := by have e5 := congrArg (fun z => z.1) e3; exact (List.cons.inj e5).1
          have e6 : y = false := by rw [b3] at e4; cases y <;> first | rfl | exact absurd e4 (by decide)
          rw [e6, decide_eq_false (show ¬ s < i by omega), decide_eq_true (show s < i + 1 by omega)]; rfl
        · by_cases z : s < i
          · rw [decide_eq_true z, decide_eq_true (show s < i + 1 by omega)]
          · rw [decide_eq_false z, decide_eq_false (show ¬ s < i + 1 by omega)]
set_option maxRecDepth 100000 in
/-- Program.fill -/
theorem fl_q {f q r s mem : Nat} {P : cdL} {y : Bool} {h : xh_H} (m12 : mem ≤ 12) (s4 : s < 4096) (hs : h.1[q]? = some (0, 7)) (hg : xg none h.2.2.2 q 1 = some r) (hr : h.1[r]? = some (4, 64)) (l4 : P.length < 400) (hP : ∀ sv, sv < 4096 → ∃ y nm, px (nI sv) P ([], nI 0) = some ([bl y], nm)) (hy : ∃ nm, px (nI s) P ([], nI 0) = some ([bl y], nm)) (pt : ptx h P) (z : hv h r s = false) (hq : a_rq a_tb h) : xq f xi_X3_fill xmi_X3_fill 0 [(0, .ref 4), (1, .ref q), (2, .int (nI mem))] [] h (fun v h' => v = none ∧ fx F7 (Lr r) h h' ∧ hv h' r s = (decide (s < 2 ^ mem) && y)) := by
  refine xq_n 2 [0, 1, 2, 3] [(0, .ref 4), (1, .ref q), (2, .int (nI mem)), (3, .int (Int32.ofInt 0))] [] h [] 4 hq rfl trivial (fun hq => ?_)
  exact fl_lp m12 s4 hs hg hr l4 hP hy f 0 h hq fx_0 pt (Nat.zero_le _) (by rw [z]; rfl)
end XFI
end
section
section XCH
set_option maxRecDepth 100000 in
set_option maxHeartbeats 4000000 in
theorem bcn_q {f : Nat} {x : Int32} {h : xh_H} (hq : a_rq a_tb h) : xq f xi_J6_bitCount_0f7a4 xmi_J6_bitCount_0f7a4 0 [(0, .int x)] [] h (fun v h' => h = h' ∧ ∃ y, v = some (.int y)) := by
  refine xq_n 52 [] [] [.int ((((((((x - (((x.toUInt32 >>> ((Int32.ofInt 1).toUInt32 &&& Int32.toUInt32 31)).toInt32) &&& 1431655765)) &&& 858993459) + ((((x - (((x.toUInt32 >>> ((Int32.ofInt 1).toUInt32 &&& Int32.toUInt32 31)).toInt32) &&& 1431655765)).toUInt32 >>> ((Int32.ofInt 2).toUInt32 &&& Int32.toUInt32 31)).toInt32) &&& 858993459)) + (((((x - (((x.toUInt32 >>> ((Int32.ofInt 1).toUInt32 &&& Int32.toUInt32 31)).toInt32) &&& 1431655765)) &&& 858993459) + ((((x - (((x.toUInt32 >>> ((Int32.ofInt 1).toUInt32 &&& Int32.toUInt32 31)).toInt32) &&& 1431655765)).toUInt32 >>> ((Int32.ofInt 2).toUInt32 &&& Int32.toUInt32 31)).toInt32) &&& 858993459)).toUInt32 >>> ((Int32.ofInt 4).toUInt32 &&& Int32.toUInt32 31)).toInt32)) &&& 252645135) + (((((((x - (((x.toUInt32 >>> ((Int32.ofInt 1).toUInt32 &&& Int32.toUInt32 31)).toInt32) &&& 1431655765)) &&& 858993459) + ((((x - (((x.toUInt32 >>> ((Int32.ofInt 1).toUInt32 &&& Int32.toUInt32 31)).toInt32) &&& 1431655765)).toUInt32 >>> ((Int32.ofInt 2).toUInt32 &&& Int32.toUInt32 31)).toInt32) &&& 858993459)) + (((((x - (((x.toUInt32 >>> ((Int32.ofInt 1).toUInt32 &&& Int32.toUInt32 31)).toInt32) &&& 1431655765)) &&& 858993459) + ((((x - (((x.toUInt32 >>> ((Int32.ofInt 1).toUInt32 &&& Int32.toUInt32 31)).toInt32) &&& 1431655765)).toUInt32 >>> ((Int32.ofInt 2).toUInt32 &&& Int32.toUInt32 31)).toInt32) &&& 858993459)).toUInt32 >>> ((Int32.ofInt 4).toUInt32 &&& Int32.toUInt32 31)).toInt32)) &&& 252645135).toUInt32 >>> ((8 : Int32).toUInt32 &&& Int32.toUInt32 31)).toInt32)) + ((((((((x - (((x.toUInt32 >>> ((Int32.ofInt 1).toUInt32 &&& Int32.toUInt32 31)).toInt32) &&& 1431655765)) &&& 858993459) + ((((x - (((x.toUInt32 >>> ((Int32.ofInt 1).toUInt32 &&& Int32.toUInt32 31)).toInt32) &&& 1431655765)).toUInt32 >>> ((Int32.ofInt 2).toUInt32 &&& Int32.toUInt32 31)).toInt32) &&& 858993459)) + (((((x - (((x.toUInt32 >>> ((Int32.ofInt 1).toUInt32 &&& Int32.toUInt32 31)).toInt32) &&& 1431655765)) &&& 858993459) + ((((x - (((x.toUInt32 >>> ((Int32.ofInt 1).toUInt32 &&& Int32.toUInt32 31)).toInt32) &&& 1431655765)).toUInt32 >>> ((Int32.ofInt 2).toUInt32 &&& Int32.toUInt32 31)).toInt32) &&& 858993459)).toUInt32 >>> ((Int32.ofInt 4).toUInt32 &&& Int32.toUInt32 31)).toInt32)) &&& 252645135) + (((((((x - (((x.toUInt32 >>> ((Int32.ofInt 1).toUInt32 &&& Int32.toUInt32 31)).toInt32) &&& 1431655765)) &&& 858993459) + ((((x - (((x.toUInt32 >>> ((Int32.ofInt 1).toUInt32 &&& Int32.toUInt32 31)).toInt32) &&& 1431655765)).toUInt32 >>> ((Int32.ofInt 2).toUInt32 &&& Int32.toUInt32 31)).toInt32) &&& 858993459)) + (((((x - (((x.toUInt32 >>> ((Int32.ofInt 1).toUInt32 &&& Int32.toUInt32 31)).toInt32) &&& 1431655765)) &&& 858993459) + ((((x - (((x.toUInt32 >>> ((Int32.ofInt 1).toUInt32 &&& Int32.toUInt32 31)).toInt32) &&& 1431655765)).toUInt32 >>> ((Int32.ofInt 2).toUInt32 &&& Int32.toUInt32 31)).toInt32) &&& 858993459)).toUInt32 >>> ((Int32.ofInt 4).toUInt32 &&& Int32.toUInt32 31)).toInt32)) &&& 252645135).toUInt32 >>> ((8 : Int32).toUInt32 &&& Int32.toUInt32 31)).toInt32)).toUInt32 >>> ((16 : Int32).toUInt32 &&& Int32.toUInt32 31)).toInt32)) &&& 63)] h [] 43 hq rfl trivial (fun hq => ?_)
  exact xq_ret rfl rfl rfl ⟨rfl, _, rfl⟩
set_option maxRecDepth 100000 in
set_option maxHeartbeats 4000000 in
theorem pwr_lp {x0 x1 : Int32} {h : xh_H} : ∀ (f : Nat) (x2 : Int64) (x4 : Int32), a_rq a_tb h → xq f xi_X2_power xmi_X2_power 5 [(0, .int x0), (1, .int x1), (2, .long x2), (4, .int x4)] [] h (fun v h' => h = h' ∧ ∃ y, v = some (.long y)) := by
  intro f
  induction f with
  | zero => intros; exact xq_0
  | succ f ih =>
    intro x2 x4 hq
    cases c1 : xe_c .ge x4 x1 with
    | true =>
      refine xq_m 23 [] [] [.long x2] h [true] 6 hq rfl ⟨c1, trivial⟩ (fun hq => ?_)
      exact xq_ret rfl rfl rfl ⟨rfl, _, rfl⟩
    | false =>
      refine xq_m 5 [0, 1, 2, 4] [(0, .int x0), (1, .int x1), (2, .long (x2 * x0.toInt64)), (4, .int (x4 + Int32.ofInt 1))] [] h [false] 12 hq rfl ⟨c1, trivial⟩ (fun hq => ?_)
      exact ih _ _ hq
set_option maxRecDepth 100000 in
set_option maxHeartbeats 4000000 in
theorem pwr_q {f : Nat} {x0 x1 : Int32} {h : xh_H} (hq : a_rq a_tb h) : xq f xi_X2_power xmi_X2_power 0 [(0, .int x0), (1, .int x1)] [] h (fun v h' => h = h' ∧ ∃ y, v = some (.long y)) := by
  refine xq_n 5 [0, 1, 2, 4] [(0, .int x0), (1, .int x1), (2, .long 1), (4, .int (Int32.ofInt 0))] [] h [] 6 hq rfl trivial (fun hq => ?_)
  exact pwr_lp f _ _ hq
theorem xq_st {f mid : Nat} {mi : xm_M} {pc pc1 : Nat} {lv : List (Nat × Value)} {st st1 : List Value} {h h1 : xh_H} {Q : Option Value → xh_H → Prop} {r : xr_R} (hr : xC mid pc = some r) (hi : xe_isr r.1 = false) (h2 : ∀ d lw, xe_2 none mi.2.2.2.1 r d pc lw st h 0 0 = some (pc1, lw, st1, h1, 0, 0)) (k : xq f mid mi pc1 lv st1 h1 Q) : xq f mid mi pc lv st h Q := by
  intro d lw w h' c s hs hx
  obtain ⟨g, eg, ⟨o', e2, e3⟩ | ⟨e2, -⟩⟩ := xq_s hr hi hx
  · rw [h2] at e2
    cases e2
    exact k d lw w h' c s hs (xe_x_le (by omega) e3)
  · rw [h2] at e2
    cases e2
theorem xin_c {i : Int32} (h1 : xe_c .lt i 0 = false) (h2 : xe_c .ge i 64 = false) : xe_in i 64 = true := by
  have b1 : (0 : Int) ≤ i.toInt := a_ce (a_neg_ok h1)
  have b2 : i.toInt < (64 : Int) := a_ce (a_neg_ok h2)
  obtain ⟨k, e, k1, k2⟩ := a_nk (x := i) (m := 63) b1 (by omega)
  rw [e]
  exact xin_n (by omega) (by omega)
set_option maxRecDepth 100000 in
set_option maxHeartbeats 4000000 in
theorem hol_q {f q r : Nat} {x : Int32} {h : xh_H} (hs : h.1[q]? = some (0, 7)) (hg : xg none h.2.2.2 q 1 = some r) (hr : h.1[r]? = some (4, 64)) (hq : a_rq a_tb h) : xq f xi_X7_holds xmi_X7_holds 0 [(0, .ref q), (1, .int x)] [] h (fun v h' => h = h' ∧ ∃ y, v = some (.int y)) := by
  cases c1 : xe_c .lt (x >>> (6 &&& 31)) 0 with
  | true =>
    refine xq_n 38 [] [] [.int (Int32.ofInt 0)] h [true] 8 hq rfl ⟨c1, trivial⟩ (fun hq => ?_)
    exact xq_ret rfl rfl rfl ⟨rfl, _, rfl⟩
  | false =>
    cases c2 : xe_c .ge (x >>> (6 &&& 31)) 64 with
    | true =>
      refine xq_n 38 [] [] [.int (Int32.ofInt 0)] h [false, true] 11 hq rfl ⟨c1, c2, trivial⟩ (fun hq => ?_)
      exact xq_ret rfl rfl rfl ⟨rfl, _, rfl⟩
    | false =>
      refine xq_n 16 [1, 2] [(1, .int x), (2, .int (x >>> (6 &&& 31)))] [.ref q] h [false, false] 12 hq rfl ⟨c1, c2, trivial⟩ (fun hq => ?_)
      refine xq_st rfl rfl (fun _ _ => xe_gr hs rfl hg) ?_
      refine xq_n 20 [1, 2] [(1, .int x), (2, .int (x >>> (6 &&& 31)))] [.int (x >>> (6 &&& 31)), .ref r] h [] 3 hq rfl trivial (fun hq => ?_)
      refine xq_st rfl rfl (fun _ _ => xe_la hr (xin_c c1 c2)) ?_
      refine xq_n 30 [] [] [.int (lg_cmp ((((xg 0 h.2.2.1 r (x >>> (6 &&& 31)).toNatClampNeg).toUInt64 >>> ((x &&& 63).toInt64.toUInt64 &&& Int64.toUInt64 63)).toInt64) &&& 1) 0)] h [] 10 hq rfl trivial (fun hq => ?_)
      cases c3 : xe_c .eq (lg_cmp ((((xg 0 h.2.2.1 r (x >>> (6 &&& 31)).toNatClampNeg).toUInt64 >>> ((x &&& 63).toInt64.toUInt64 &&& Int64.toUInt64 63)).toInt64) &&& 1) 0) 0 with
      | true =>
        refine xq_n 38 [] [] [.int (Int32.ofInt 0)] h [true] 4 hq rfl ⟨c3, trivial⟩ (fun hq => ?_)
        exact xq_ret rfl rfl rfl ⟨rfl, _, rfl⟩
      | false =>
        refine xq_n 38 [] [] [.int (Int32.ofInt 1)] h [false] 5 hq rfl ⟨c3, trivial⟩ (fun hq => ?_)
        exact xq_ret rfl rfl rfl ⟨rfl, _, rfl⟩
set_option maxRecDepth 100000 in
set_option maxHeartbeats 4000000 in
theorem chC {pp : Int32} {h0 h : xh_H} (ge : fx fN (Lr 20) h0 h) : ∀ (f : Nat) (x2 : Int64) (x4 : Int32), a_rq a_tb h → xq f xi_X2_chanceOf xmi_X2_chanceOf 68 [(0, .ref 14), (1, .int pp), (2, .long x2), (4, .int x4)] [] h (fun v h' => fx fN (Lr 20) h0 h' ∧ ∃ y, v = some (.long y)) := by
  intro f
  induction f with
  | zero => intros; exact xq_0
  | succ f ih =>
    intro x2 x4 hq
    cases c1 : xe_c .gt x4 (xg 0 h.2.1 14 7) with
    | true =>
      refine xq_m 116 [] [] [.long x2] h [true] 7 hq rfl ⟨c1, trivial⟩ (fun hq => ?_)
      exact xq_ret rfl rfl rfl ⟨ge, _, rfl⟩
    | false =>
      refine xq_m 88 [0, 1, 2, 4] [(0, .ref 14), (1, .int pp), (2, .long x2), (4, .int x4)] [.int x4, .int pp, .long (xg 0 h.2.2.1 20 x4.toNatClampNeg), .long x2] h [false] 13 hq rfl ⟨c1, trivial⟩ (fun hq => ?_)
      refine xq_run hq rfl rfl (pwr_q hq) ?_
      rintro v2 h_2 ⟨rfl, w2, rfl⟩
      refine xq_n 103 [0, 1, 2, 4] [(0, .ref 14), (1, .int pp), (2, .long x2), (4, .int x4)] [.int ((xg 0 h.2.1 14 7) - x4), .int (10 - pp), .long ((xg 0 h.2.2.1 20 x4.toNatClampNeg) * w2), .long x2] h [] 10 hq rfl trivial (fun hq => ?_)
      refine xq_run hq rfl rfl (pwr_q hq) ?_
      rintro v3 h_3 ⟨rfl, w3, rfl⟩
      refine xq_n 68 [0, 1, 2, 4] [(0, .ref 14), (1, .int pp), (2, .long (x2 + (((xg 0 h.2.2.1 20 x4.toNatClampNeg) * w2) * w3))), (4, .int (x4 + Int32.ofInt 1))] [] h [] 7 hq rfl trivial (fun hq => ?_)
      exact ih _ _ hq
set_option maxRecDepth 100000 in
set_option maxHeartbeats 4000000 in
theorem chB {pp : Int32} {q r : Nat} {h0 : xh_H} (hq6 : xg none h0.2.2.2 14 6 = some q) (hs : h0.1[q]? = some (0, 7)) (hg : xg none h0.2.2.2 q 1 = some r) (hr : h0.1[r]? = some (4, 64)) : ∀ (f : Nat) (x : Int32) (h : xh_H), a_rq a_tb h → fx fN (Lr 20) h0 h → xq f xi_X2_chanceOf xmi_X2_chanceOf 25 [(0, .ref 14), (1, .int pp), (2, .int x)] [] h (fun v h' => fx fN (Lr 20) h0 h' ∧ ∃ y, v = some (.long y)) := by
  intro f
  induction f with
  | zero => intros; exact xq_0
  | succ f ih =>
    intro x h hq ge
    cases c1 : xe_c .gt x (xg 0 h.2.1 14 8) with
    | true =>
      refine xq_m 68 [0, 1, 2, 4] [(0, .ref 14), (1, .int pp), (2, .long 0), (4, .int (Int32.ofInt 0))] [] h [true] 10 hq rfl ⟨c1, trivial⟩ (fun hq => ?_)
      exact chC ge f _ _ hq
    | false =>
      refine xq_m 38 [0, 1, 2] [(0, .ref 14), (1, .int pp), (2, .int x)] [.int x, va_rf (xg none h.2.2.2 14 6)] h [false] 9 hq rfl ⟨c1, trivial⟩ (fun hq => ?_)
      have e6 : xg none h.2.2.2 14 6 = some q := by rw [ge.2.1]; exact hq6
      rw [e6]
      refine xq_cr (As := [.ref q, .int x]) (mj := xmi_X7_holds) (q := []) rfl rfl (fun _ _ => rfl) (xa_cs_ok (d := 0) (pc := 0) (lv := []) (nL := 0) (show h.1[q]? = some (0, 7) by rw [ge.1]; exact hs) rfl).1 (fun f => hol_q (by rw [ge.1]; exact hs) (by rw [ge.2.1]; exact hg) (by rw [ge.1]; exact hr) hq) ?_
      rintro v2 h_2 ⟨rfl, w2, rfl⟩
      cases c3 : xe_c .eq w2 0 with
      | true =>
        refine xq_n 25 [0, 1, 2] [(0, .ref 14), (1, .int pp), (2, .int (x + Int32.ofInt 1))] [] h [true] 5 hq rfl ⟨c3, trivial⟩ (fun hq => ?_)
        exact ih _ _ hq (ge)
      | false =>
        refine xq_n 49 [0, 1, 2] [(0, .ref 14), (1, .int pp), (2, .int x)] [.int x, .ref 20] h [false] 6 hq rfl ⟨c3, trivial⟩ (fun hq => ?_)
        refine xq_run hq rfl rfl (bcn_q hq) ?_
        rintro v4 h_4 ⟨rfl, w4, rfl⟩
        refine xq_n 25 [0, 1, 2] [(0, .ref 14), (1, .int pp), (2, .int (x + Int32.ofInt 1))] [] (xh_ul h 20 w4.toNatClampNeg ((xg 0 h.2.2.1 20 w4.toNatClampNeg) + 1)) [] 9 hq rfl trivial (fun _ => ?_)
        have hq : a_rq a_tb (xh_ul h 20 w4.toNatClampNeg ((xg 0 h.2.2.1 20 w4.toNatClampNeg) + 1)) := a_rq_ul hq
        exact ih _ _ hq (fx_ul (ge) rfl)
set_option maxRecDepth 100000 in
set_option maxHeartbeats 4000000 in
theorem chA {pp : Int32} {q r : Nat} {h0 : xh_H} (hq6 : xg none h0.2.2.2 14 6 = some q) (hs : h0.1[q]? = some (0, 7)) (hg : xg none h0.2.2.2 q 1 = some r) (hr : h0.1[r]? = some (4, 64)) : ∀ (f : Nat) (x : Int32) (h : xh_H), a_rq a_tb h → fx fN (Lr 20) h0 h → xq f xi_X2_chanceOf xmi_X2_chanceOf 2 [(0, .ref 14), (1, .int pp), (2, .int x)] [] h (fun v h' => fx fN (Lr 20) h0 h' ∧ ∃ y, v = some (.long y)) := by
  intro f
  induction f with
  | zero => intros; exact xq_0
  | succ f ih =>
    intro x h hq ge
    cases c1 : xe_c .gt x (xg 0 h.2.1 14 7) with
    | true =>
      refine xq_m 25 [0, 1, 2] [(0, .ref 14), (1, .int pp), (2, .int (Int32.ofInt 0))] [] h [true] 8 hq rfl ⟨c1, trivial⟩ (fun hq => ?_)
      exact chB hq6 hs hg hr f _ _ hq ge
    | false =>
      refine xq_m 2 [0, 1, 2] [(0, .ref 14), (1, .int pp), (2, .int (x + Int32.ofInt 1))] [] (xh_ul h 20 x.toNatClampNeg 0) [false] 13 hq rfl ⟨c1, trivial⟩ (fun _ => ?_)
      have hq : a_rq a_tb (xh_ul h 20 x.toNatClampNeg 0) := a_rq_ul hq
      exact ih _ _ hq (fx_ul (ge) rfl)
set_option maxRecDepth 100000 in
set_option maxHeartbeats 4000000 in
theorem cho_q {f : Nat} {pp : Int32} {q r : Nat} {h0 : xh_H} (hq6 : xg none h0.2.2.2 14 6 = some q) (hs : h0.1[q]? = some (0, 7)) (hg : xg none h0.2.2.2 q 1 = some r) (hr : h0.1[r]? = some (4, 64)) (hq : a_rq a_tb h0) : xq f xi_X2_chanceOf xmi_X2_chanceOf 0 [(0, .ref 14), (1, .int pp)] [] h0 (fun v h' => fx fN (Lr 20) h0 h' ∧ ∃ y, v = some (.long y)) := by
  refine xq_n 2 [0, 1, 2] [(0, .ref 14), (1, .int pp), (2, .int (Int32.ofInt 0))] [] h0 [] 4 hq rfl trivial (fun hq => ?_)
  exact chA hq6 hs hg hr f _ _ hq fx_0
end XCH
end
section
section XSR1
variable {tb : aT} {mid d : Nat} {mi : xm_M} {pc : Nat} {lv : List (Nat × Value)} {st : List Value} {h : xh_H} {Q : Option Value → xh_H → Prop}
theorem xq_all {α : Type} {f mid : Nat} {mi : xm_M} {pc : Nat} {lv : List (Nat × Value)} {st : List Value} {h : xh_H} {Q : α → Option Value → xh_H → Prop} (k : ∀ x, xq f mid mi pc lv st h (Q x)) : xq f mid mi pc lv st h (fun v h' => ∀ x, Q x v h') := fun d lw v h' c s hs he x => k x d lw v h' c s hs he
theorem xp_voidq {C : aC} {r : xr_R} {mj : xm_M} {As q : List Value} {σ : aN → Int} {P : aP} {Q1 : Option Value → xh_H → Prop} (hC : a_spec tb C) (hq : a_rq tb h) (hi0 : a_inv tb h) (hr : xC mid pc = some r) (hid : C.1 = r.2.2.1) (he : xa_c r st = some (mj, As, q)) (hd : C.2.1 ≤ d) (ha : a_st σ h.1.length C.2.2.1 As) (hp : a_fp C.2.2.2.2.2 h) (hret : C.2.2.2.1 = [(none, P)]) (hx : ∀ f, xq f r.2.2.1 mj 0 (lv_args 0 As) [] h Q1)
    (k : ∀ (h' : xh_H), Q1 none h' → a_inv tb h' → h'.1 = h.1 → a_fr C.2.2.2.2.1 h h' → a_rq tb h' → xt_P (d + 1) mid mi (pc + 3) lv q h' Q) : xt_P (d + 1) mid mi pc lv st h Q := by
  obtain ⟨e1, e2, e3, e4⟩ := xa_c_ok (d := d) (pc := pc) (lv := lv) (nL := mi.2.2.2.1) hq he
  obtain ⟨v, h', r1, p1, p2, ⟨t, ht, p3⟩, p4⟩ := hC d mj As h σ hd (by rw [hid]; exact e4) hi0 hq.1 ha hp
  rw [hret] at ht
  cases List.mem_singleton.mp ht
  obtain ⟨g1, g2⟩ := p3
  cases g1
  have r1' : xR none d r.2.2.1 mj (0, lv_args 0 As, [], h, 0, 0) (none, h', 0, 0) := by rw [← hid]; exact r1
  obtain ⟨v2, h2, r2, q2⟩ := k h' (xq_R lv_args_nd r1' hx) p1 p2 p4 (a_rq_of p1.1 (by rw [p2]; exact hq.1))
  exact ⟨v2, h2, xR_call (v := none) (h' := h') (mc := 0) (ms := 0) hr e3 e2 e1 r1' r2, q2⟩
end XSR1
section XSR2
variable {T : Nat → Nat} {n mem : Nat}
/-- the bits of the sets that carry -/
def fil (P : cdL) (mem r : Nat) (h' : xh_H) : Prop := ∀ s y, s < 4096 → (∃ nm, px (nI s) P ([], nI 0) = some ([bl y], nm)) → hv h' r s = (decide (s < 2 ^ mem) && y)
theorem fil_q {f q r mem : Nat} {P : cdL} {h : xh_H} (m12 : mem ≤ 12) (hs : h.1[q]? = some (0, 7)) (hg : xg none h.2.2.2 q 1 = some r) (hr : h.1[r]? = some (4, 64)) (l4 : P.length < 400) (hP : ∀ sv, sv < 4096 → ∃ y nm, px (nI sv) P ([], nI 0) = some ([bl y], nm)) (pt : ptx h P) (z : ∀ s, s < 4096 → hv h r s = false) (hq : a_rq a_tb h) : xq f xi_X3_fill xmi_X3_fill 0 [(0, .ref 4), (1, .ref q), (2, .int (nI mem))] [] h (fun v h' => fx F7 (Lr r) h h' ∧ fil P mem r h') := by
  refine xq_and ?_ ?_
  · obtain ⟨y, nm, hy⟩ := hP 0 (by decide)
    exact xq_mono (fl_q m12 (s := 0) (by decide) hs hg hr l4 hP ⟨nm, hy⟩ pt (z 0 (by decide)) hq) (fun _ _ e => e.2.1)
  · refine xq_all (fun s => xq_all (fun y => ?_))
    intro d lw v h' c s' hb he s4 hy
    exact (fl_q m12 s4 hs hg hr l4 hP hy pt (z s s4) hq d lw v h' c s' hb he).2.2
/-- what the class's statute leaves of its statutes -/
def cst (h h' : xh_H) (sc : Nat) : Prop := h.1.length ≤ h'.1.length ∧ (∀ c k, c < h.1.length → (c = 13 → k < sc) → xg none h'.2.2.2 c k = xg none h.2.2.2 c k) ∧ (∀ c k, c < h.1.length → xg 0 h'.2.2.1 c k = xg 0 h.2.2.1 c k) ∧ ∀ c k, (c = 11 ∨ 72 ≤ c) → c < h.1.length → xg 0 h'.2.1 c k = xg 0 h.2.1 c k
def cnw (h h' : xh_H) (T : Nat → Nat) (n mem sc : Nat) (f : Int32) : Prop := xg 0 h'.2.1 0 8 = nI (sc + 1) → h.1.length + 1 < h'.1.length ∧ xg none h'.2.2.2 13 sc = some h.1.length ∧ xg none h'.2.2.2 h.1.length 1 = some (h.1.length + 1) ∧ xg 0 h'.2.1 h.1.length 0 = f ∧ ∀ s, s < 4096 → ∃ y j, hv h' (h.1.length + 1) s = (decide (s < 2 ^ mem) && y) ∧ Tv T n mem s j 0 0 0 (nmW T (fun _ => (0, 0))) (fun _ => false) y
theorem cst_t {h h1 h2 : xh_H} {sc : Nat} (a : cst h h1 sc) (b : cst h1 h2 sc) : cst h h2 sc := ⟨Nat.le_trans a.1 b.1, fun c k l z => (b.2.1 c k (Nat.lt_of_lt_of_le l a.1) z).trans (a.2.1 c k l z), fun c k l => (b.2.2.1 c k (Nat.lt_of_lt_of_le l a.1)).trans (a.2.2.1 c k l), fun c k z l => (b.2.2.2 c k z (Nat.lt_of_lt_of_le l a.1)).trans (a.2.2.2 c k z l)⟩
theorem cst_f {S L : Nat → Nat → Bool} {h h' : xh_H} {sc : Nat} (g : fx S L h h') (e : ∀ c k, (c = 11 ∨ 72 ≤ c) → c < h.1.length → S c k = false) (e2 : ∀ c k, c < h.1.length → L c k = false) : cst h h' sc := ⟨by rw [g.1]; exact Nat.le_refl _, fun c k _ _ => by rw [g.2.1], fun c k l => fx_l g (e2 c k l), fun c k z l => fx_i g (e c k z l)⟩
theorem ns_z {h : xh_H} {f : Int32} {k : Nat} : xg 0 (ns_h h f).2.2.1 (h.1.length + 1) k = 0 := by
  show xg 0 (xh_rs (xh_rs h.2.2.1 h.1.length) (h.1 ++ [((0, 7) : Nat × Nat)]).length) (h.1.length + 1) k = 0
  rw [ns_l1, xh_rs_s]
theorem ns_cst {h : xh_H} {f : Int32} {sc : Nat} : cst h (ns_h h f) sc := ⟨by rw [ns_n]; omega, fun c k l _ => ns_r l, fun c k l => ns_g l, fun c k _ l => ns_i l⟩
theorem nI_8 {k : Nat} (h : k ≤ 8) (e : nI k = nI (k + 1)) : False := by
  have e2 := congrArg Int32.toInt e
  rw [nI_toInt (by omega), nI_toInt (by omega)] at e2
  omega
set_option maxRecDepth 100000 in
set_option maxHeartbeats 8000000 in
/-- from the new Statute on -/
theorem s9_rest3 {d n m sc : Nat} {f : Int32} {h : xh_H} (hn : 72 ≤ h.1.length) (hi : a_inv a_tb h) (n72 : 72 ≤ n) (hpn : n % 2 = 0) (hnl : n < h.1.length) (hsn : h.1[n]? = some (0, 7)) (e8' : xg 0 h.2.1 0 8 = nI sc) (sc8 : sc < 8) (e37 : xg 0 h.2.1 3 7 = nI m) {mem : Nat} {P : cdL} (m12 : mem ≤ 12) (e9 : xg 0 h.2.1 0 9 = nI mem) (hg : xg none h.2.2.2 n 1 = some (n + 1)) (hr : h.1[n + 1]? = some (4, 64)) (l4 : P.length < 400) (hP : ∀ sv, sv < 4096 → ∃ y nm, px (nI sv) P ([], nI 0) = some ([bl y], nm)) (pt : ptx h P) (hz : ∀ s, s < 4096 → hv h (n + 1) s = false) : xt_P (d + 49) xi_X9_statute xmi_X9_statute 91 [(0, .ref 0), (1, .int f)] [.ref n] h (fun v h' => (hk ss_md h h' ∧ v = some (.int (nI m)) ∧ xg 0 h'.2.1 1 1 = xg 0 h.2.1 1 1 ∧ xg 0 h'.2.1 0 8 = nI (sc + 1) ∧ xg 0 h'.2.1 0 11 = xg 0 h.2.1 0 11) ∧ xg none h'.2.2.2 13 sc = some n ∧ (∀ c k, (c = 13 → k ≠ sc) → xg none h'.2.2.2 c k = xg none h.2.2.2 c k) ∧ (∀ c k, c ≠ n + 1 → xg 0 h'.2.2.1 c k = xg 0 h.2.2.1 c k) ∧ (∀ c k, (c = 11 ∨ 72 ≤ c) → xg 0 h'.2.1 c k = xg 0 h.2.1 c k) ∧ fil P mem (n + 1) h') := by
  have hq := a_rq_of hi.1 hn
  have mb := a_flx (c := 0) (k := 9) (lo := 1) (hi := 12) hi.1 hn rfl rfl (by decide)
  refine xa_tn 104 [0, 2] [(0, .ref 0), (2, .ref n)] [.int (xg 0 h.2.1 0 9), .ref n, .ref 4] h [] 9 hq rfl trivial (fun _ => ?_)
  refine xp_voidq (C := aC_m_X3_fill) (P := []) (σ := fun _ => 0) as_m_X3_fill hq hi rfl rfl rfl (by show 2 ≤ d + 48; omega) ⟨a_av (t := 4) (by decide) hq.1, ⟨n, rfl, hnl, a_tg_e n72 hpn⟩, a_ai mb.1 mb.2, trivial⟩ a_fp0 rfl (fun f => by rw [e9]; exact fil_q (f := f) m12 hsn hg hr l4 hP pt hz hq) (fun h2 hx i2 l2 f2 q2 => ?_)
  obtain ⟨gx, gf⟩ := hx
  have hk2 : hk ss_md h h2 := hk_c (hk_0 hi) i2 l2 f2 (by decide)
  have e8 : xg 0 h2.2.1 0 8 = nI sc := (fr_g f2 rfl rfl).trans e8'
  have e7 : xg 0 h2.2.1 3 7 = nI m := (fr_g f2 rfl rfl).trans e37
  refine xa_tn 116 [0, 2] [(0, .ref 0), (2, .ref n)] [.ref n, .int (xg 0 h2.2.1 0 8), .ref 13] h2 [] 7 q2 rfl trivial (fun _ => ?_)
  rw [e8]
  have hin : xe_in (nI sc) 8 = true := xin_n (by omega) (by omega)
  have ecl : (nI sc).toNatClampNeg = sc := nI_clamp (by omega)
  have ki := nI_toInt (n := sc + 1) (by omega)
  have s13 : h2.1[13]? = some (5, 8) := q2.2.1 13 _ rfl
  have sn2 : h2.1[n]? = some (0, 7) := by rw [l2]; exact hsn
  refine xp_step (pc1 := 117) (lv1 := [(0, .ref 0), (2, .ref n)]) (st1 := []) (h1 := xh_ur h2 13 sc (some n)) (r := _) rfl rfl (by simp [xe_2, xe_1, xp_rir, s13, sn2, hin, ecl]) ?_
  have i3 : a_inv a_tb (xh_ur h2 13 sc (some n)) := a_inv_ur (s := (5, 8)) (e := (3, 11, 0)) i2 s13 rfl (Or.inr rfl) ⟨by rw [l2]; exact hnl, a_tg_e n72 hpn⟩
  have hk3 : hk ss_md h (xh_ur h2 13 sc (some n)) := ⟨i3, l2, hk2.2.2⟩
  have e11 : xg 0 (xh_ur h2 13 sc (some n)).2.1 1 1 = xg 0 h.2.1 1 1 := fr_g f2 rfl rfl
  have e0b : xg 0 (xh_ur h2 13 sc (some n)).2.1 0 11 = xg 0 h.2.1 0 11 := fr_g f2 rfl rfl
  have e83 : xg 0 (xh_ur h2 13 sc (some n)).2.1 0 8 = nI sc := e8
  have e73 : xg 0 (xh_ur h2 13 sc (some n)).2.1 3 7 = nI m := e7
  have u1 : xg none (xh_ur h2 13 sc (some n)).2.2.2 13 sc = some n := xh_up_s
  have u2 : ∀ c k, (c = 13 → k ≠ sc) → xg none (xh_ur h2 13 sc (some n)).2.2.2 c k = xg none h.2.2.2 c k := fun c k z => by
    show xg none (xh_up none h2.2.2.2 13 sc (some n)) c k = _
    by_cases y : c = 13
    · subst y
      rw [xh_up_k (z rfl), gx.2.1]
    · rw [xh_up_o y, gx.2.1]
  have u3 : ∀ c k, c ≠ n + 1 → xg 0 (xh_ur h2 13 sc (some n)).2.2.1 c k = xg 0 h.2.2.1 c k := fun c k z => gx.2.2.2 c k (show Nat.beq c (n + 1) = false from by rw [Bool.eq_false_iff]; intro y; exact z (Nat.eq_of_beq_eq_true y))
  have u4 : ∀ c k, (c = 11 ∨ 72 ≤ c) → xg 0 (xh_ur h2 13 sc (some n)).2.1 c k = xg 0 h.2.1 c k := fun c k z => gx.2.2.1 c k (show Nat.beq c 7 = false from by rw [Bool.eq_false_iff]; intro y; have := Nat.eq_of_beq_eq_true y; omega)
  have u5 : fil P mem (n + 1) (xh_ur h2 13 sc (some n)) := gf
  generalize xh_ur h2 13 sc (some n) = h3 at hk3 e83 e11 e0b e73 u1 u2 u3 u4 u5 ⊢
  refine xa_tn 134 [] [] [.int (xg 0 (xh_ui h3 0 8 ((xg 0 h3.2.1 0 8) + (Int32.ofInt 1))).2.1 3 7)] (xh_ui h3 0 8 ((xg 0 h3.2.1 0 8) + (Int32.ofInt 1))) [] 11 (hk_q hk3 hn) rfl trivial (fun _ => ?_)
  have e1 : nI sc + Int32.ofInt 1 = nI (sc + 1) := nI_1 sc
  rw [gx_o (by decide), e73, e83, e1]
  exact xp_ret rfl rfl rfl ⟨⟨hk_ui (s := (0, 9)) (lo := 0) (hi := 8) hk3 hn rfl rfl (by omega) (by omega) rfl rfl, rfl, (gx_o (by decide)).trans e11, gx_s, (gx_k (by decide)).trans e0b⟩, u1, u2, u3, fun c k z => (gx_o (by omega)).trans (u4 c k z), u5⟩
set_option maxRecDepth 100000 in
set_option maxHeartbeats 8000000 in
/-- .. with its making -/
theorem s9_new3 {d m sc : Nat} {f : Int32} {h : xh_H} (hn : 72 ≤ h.1.length) (hp : h.1.length % 2 = 0) (hi : a_inv a_tb h) (e8 : xg 0 h.2.1 0 8 = nI sc) (sc8 : sc < 8) (e37 : xg 0 h.2.1 3 7 = nI m) (f9 : f.toInt ≤ 999) {mem : Nat} (m12 : mem ≤ 12) (e9 : xg 0 h.2.1 0 9 = nI mem) (tg : tx_G T n mem h) : xt_B (d + 49) xi_X9_statute xmi_X9_statute 83 [(0, .ref 0), (1, .int f)] [] h (fun v h' c s => hl ss_md h h' ∧ ((v = some (.int (nI m)) ∧ xg 0 h'.2.1 1 1 = xg 0 h.2.1 1 1 ∧ xg 0 h'.2.1 0 8 = nI (sc + 1) ∧ xg 0 h'.2.1 0 11 = xg 0 h.2.1 0 11) ∧ cst h h' sc ∧ cnw h h' T n mem sc f) ∧ c ≤ 2 ∧ s ≤ 66) := by
  obtain ⟨P, pt, l4, tv⟩ := tg
  have i1 := ns_inv hi hn hp f9
  have n1 : (ns_h h f).1.length = h.1.length + 2 := ns_n
  obtain ⟨v, h', r, ⟨q1, q2, q3, q4, q5⟩, u1, u2, u3, u4, u5⟩ := s9_rest3 (d := d) (n := h.1.length) (m := m) (sc := sc) (f := f) (h := ns_h h f) (by omega) i1 hn hp (by omega) ns_s0 (by rw [ns_i (by omega)]; exact e8) sc8 (by rw [ns_i (by omega)]; exact e37) m12 (by rw [ns_i (by omega)]; exact e9) ns_r1 ns_s1 l4 (fun sv hs => by obtain ⟨y, j, nm, p1, -⟩ := tv sv hs; exact ⟨y, nm, p1⟩) ⟨(ns_i (by omega)).trans pt.1, fun k hk' => ⟨(ns_i (by omega)).trans (pt.2 k hk').1, (ns_i (by omega)).trans (pt.2 k hk').2⟩⟩ (fun s s4 => by rw [hv_lb, ns_z]; exact lb_0 (by omega))
  have b0 : h'.1 = (ns_h h f).1 := q1.2.1
  have cs : cst h h' sc := ⟨by rw [b0, n1]; omega, fun c k l z => (u2 c k (fun e y => by have := z e; omega)).trans (ns_r l), fun c k l => (u3 c k (by omega)).trans (ns_g l), fun c k z l => (u4 c k z).trans (ns_i l)⟩
  refine ⟨v, h', 2, 66, ?_, ⟨q1.1, by rw [q1.2.1]; omega, by rw [q1.2.1]; omega, a_fr_t (fun c k hz _ => ns_i (by have := a_fz_lt hz; omega)) q1.2.2 (fun _ z => z)⟩, ⟨⟨q2, q3.trans (ns_i (by omega)), q4, q5.trans (ns_i (by omega))⟩, cs, fun _ => ⟨by rw [b0]; omega, u1, (u2 _ _ (fun e => by omega)).trans ns_r1, (u4 _ _ (Or.inr hn)).trans ns_f, fun s s4 => by obtain ⟨y, j, nm, p1, p2⟩ := tv s s4; exact ⟨y, j, u5 s y s4 ⟨nm, p1⟩, p2⟩⟩⟩, Nat.le_refl _, Nat.le_refl _⟩
  refine xR_step (o1 := (86, [(0, .ref 0), (1, .int f)], [.ref h.1.length], xh_nw h (0, 7), 1, 2)) rfl rfl rfl ?_
  refine xR_step (o1 := (87, [(0, .ref 0), (1, .int f)], [.ref h.1.length, .ref h.1.length], xh_nw h (0, 7), 1, 2)) rfl rfl rfl ?_
  refine xR_step (o1 := (88, [(0, .ref 0), (1, .int f)], [.int f, .ref h.1.length, .ref h.1.length], xh_nw h (0, 7), 1, 2)) rfl rfl rfl ?_
  refine xR_call (d := d + 48) (v := none) (h' := ns_h h f) (mc := 1) (ms := 64) (As := [.ref h.1.length, .int f]) (q := [.ref h.1.length]) (mj := xmi_X7_init) rfl rfl rfl rfl (ns_init (d := d + 47)) ?_
  exact xR_ad r 2 66
theorem cU_72 {c k : Nat} (h : 72 ≤ c) : (cU c k || (Nat.beq c 1 || Nat.beq c 0)) = false := by
  have e : ∀ j, j < 72 → Nat.beq c j = false := fun j hj => by
    rw [Bool.eq_false_iff]
    intro y
    have := Nat.eq_of_beq_eq_true y
    omega
  unfold cU
  rw [e 8 (by decide), e 3 (by decide), e 4 (by decide), e 5 (by decide), e 6 (by decide), e 9 (by decide), e 10 (by decide), e 1 (by decide), e 0 (by decide)]
  rfl
set_option maxRecDepth 100000 in
set_option maxHeartbeats 8000000 in
/-- X9.statute -/
theorem s9r_run {d sc td : Nat} {f : Int32} {h : xh_H} (hn : 72 ≤ h.1.length) (hp : h.1.length % 2 = 0) (hi : a_inv a_tb h) (hc : ct h T n) (e9 : xg 0 h.2.1 0 9 = nI mem) (m12 : mem ≤ 12) (e8 : xg 0 h.2.1 0 8 = nI sc) (sc8 : sc ≤ 8) (e10 : xg 0 h.2.1 0 10 = nI td) (td9 : td ≤ 999) : xt_B (d + 49) xi_X9_statute xmi_X9_statute 0 [(0, .ref 0), (1, .int f)] [] h (fun v h' c s => hl ss_md h h' ∧ ((xg 0 h'.2.1 1 1 = 0 ∧ s9_A T n mem sc td f (xg 0 h.2.1 0 11) v h') ∧ cst h h' sc ∧ cnw h h' T n mem sc f) ∧ c ≤ 2 ∧ s ≤ 66) := by
  have hq := a_rq_of hi.1 hn
  have mb := a_flx (c := 0) (k := 9) (lo := 1) (hi := 12) hi.1 hn rfl rfl (by decide)
  have tdi := nI_toInt (n := td) (by omega)
  have bad : sref sc td f → xt_B (d + 49) xi_X9_statute xmi_X9_statute 24 [(0, .ref 0), (1, .int f)] [] h (fun v h' c s => hl ss_md h h' ∧ ((xg 0 h'.2.1 1 1 = 0 ∧ s9_A T n mem sc td f (xg 0 h.2.1 0 11) v h') ∧ cst h h' sc ∧ cnw h h' T n mem sc f) ∧ c ≤ 2 ∧ s ≤ 66) := by
    intro hs
    refine xb_P (Q1 := fun v h' => hk ss_md h h' ∧ (xg 0 h'.2.1 1 1 = 0 ∧ s9_A T n mem sc td f (xg 0 h.2.1 0 11) v h') ∧ cst h h' sc ∧ cnw h h' T n mem sc f) ?_ (fun v h' z => ⟨hl_hk z.1 hn hp, z.2, by decide, by decide⟩)
    refine xa_tn 35 [] [] [.int (-1000)] (xh_ui h 1 1 (Int32.ofInt 0)) [] 7 hq rfl trivial (fun _ => ?_)
    exact xp_ret rfl rfl rfl ⟨hk_ui (s := (0, 8)) (lo := 0) (hi := 640) (hk_0 hi) hn rfl rfl (by decide) (by decide) rfl rfl, ⟨gx_s, fun _ => ⟨rfl, (gx_o (by decide)).trans e8, gx_o (by decide)⟩, fun z => absurd hs z⟩, cst_f (S := fun c _ => Nat.beq c 1) (L := fN) (fx_ui fx_0 rfl) (fun c k z _ => by rw [Bool.eq_false_iff]; intro y; have := Nat.eq_of_beq_eq_true y; omega) (fun _ _ _ => rfl), fun z => (nI_8 sc8 (((gx_o (by decide)).trans e8).symm.trans z)).elim⟩
  by_cases k8 : 8 ≤ sc
  · exact xb_tn 24 [0, 1] [(0, .ref 0), (1, .int f)] [] h [true] 6 hq rfl ⟨(show xe_c .ge (xg 0 h.2.1 0 8) 8 = true by rw [e8]; exact nge_t (b := 8) (by omega) (by decide) k8), trivial⟩ (fun _ => bad (Or.inl k8))
  have c1 : xe_c .ge (xg 0 h.2.1 0 8) 8 = false := by rw [e8]; exact nge_f (b := 8) (by omega) (by decide) (by omega)
  cases c2 : xe_c .lt f (xg 0 h.2.1 0 10) with
  | true =>
    have b2 : f.toInt < (xg 0 h.2.1 0 10).toInt := a_ce c2
    rw [e10, tdi] at b2
    exact xb_tn 24 [0, 1] [(0, .ref 0), (1, .int f)] [] h [false, true] 10 hq rfl ⟨c1, c2, trivial⟩ (fun _ => bad (Or.inr (Or.inl b2)))
  | false =>
    have b2 : (xg 0 h.2.1 0 10).toInt ≤ f.toInt := a_ce (a_neg_ok c2)
    rw [e10, tdi] at b2
    cases c3 : xe_c .le f 999 with
    | false =>
      have b3 : (999 : Int) < f.toInt := a_ce (a_neg_ok c3)
      exact xb_tn 24 [0, 1] [(0, .ref 0), (1, .int f)] [] h [false, false, false] 13 hq rfl ⟨c1, c2, c3, trivial⟩ (fun _ => bad (Or.inr (Or.inr b3)))
    | true =>
      have f9 : f.toInt ≤ (999 : Int) := a_ce c3
      have nsr : ¬ sref sc td f := by
        rintro (z | z | z) <;> omega
      refine xb_tn 44 [0, 1] [(0, .ref 0), (1, .int f)] [.int (xg 0 h.2.1 0 9), .ref 3] h [false, false, true] 17 hq rfl ⟨c1, c2, c3, trivial⟩ (fun _ => ?_)
      refine xb_voidq (C := aC_m_X4_read) (P := []) (σ := fun _ => 0) as_m_X4_read hq hi rfl rfl rfl (by show 48 ≤ d + 48; omega) ⟨a_av (t := 3) (by decide) hq.1, a_ai mb.1 mb.2, trivial⟩ a_fp0 rfl (fun f => by rw [e9]; exact xq_and (read_q (f := f) hc m12 hq) (read_p (f := f) hc m12 hq)) (fun h1 hx i1 l1 f1 q1 => ?_)
      obtain ⟨⟨-, gx, j, r, hX, hO⟩, hG⟩ := hx
      have cs1 : cst h (xh_ui (xh_ui h1 1 1 (Int32.ofInt 0)) 0 11 (xg 0 (xh_ui h1 1 1 (Int32.ofInt 0)).2.1 3 8)) sc := cst_f (S := fun c k => cU c k || (Nat.beq c 1 || Nat.beq c 0)) (L := fN) (fx_ui (fx_ui (fx_w gx (fun _ _ z => (or_f z).1) (fun _ _ z => z)) rfl) rfl) (fun c k z _ => by rcases z with rfl | z <;> first | rfl | exact cU_72 z) (fun _ _ _ => rfl)
      have hk1 : hk ss_md h h1 := hk_c (hk_0 hi) i1 l1 f1 (by decide)
      have hn1 := hk_n hk1 hn
      have ka : hk ss_md h (xh_ui h1 1 1 (Int32.ofInt 0)) := hk_ui (s := (0, 8)) (lo := 0) (hi := 640) hk1 hn rfl rfl (by decide) (by decide) rfl rfl
      have b38 := a_flx (c := 3) (k := 8) (lo := 0) (hi := 4) ka.1.1 (hk_n ka hn) rfl rfl (by decide)
      have kb : hk ss_md h (xh_ui (xh_ui h1 1 1 (Int32.ofInt 0)) 0 11 (xg 0 (xh_ui h1 1 1 (Int32.ofInt 0)).2.1 3 8)) := hk_ui (s := (0, 9)) (lo := 0) (hi := 4) ka hn rfl rfl b38.1 b38.2 rfl rfl
      have d38 : xg 0 (xh_ui h1 1 1 (Int32.ofInt 0)).2.1 3 8 = xg 0 h1.2.1 3 8 := gx_o (by decide)
      have d8 : xg 0 (xh_ui (xh_ui h1 1 1 (Int32.ofInt 0)) 0 11 (xg 0 (xh_ui h1 1 1 (Int32.ofInt 0)).2.1 3 8)).2.1 0 8 = nI sc := (gx_k (by decide)).trans ((gx_o (by decide)).trans ((fx_i gx rfl).trans e8))
      have d11 : xg 0 (xh_ui (xh_ui h1 1 1 (Int32.ofInt 0)) 0 11 (xg 0 (xh_ui h1 1 1 (Int32.ofInt 0)).2.1 3 8)).2.1 0 11 = xg 0 h1.2.1 3 8 := gx_s.trans d38
      have d1 : xg 0 (xh_ui (xh_ui h1 1 1 (Int32.ofInt 0)) 0 11 (xg 0 (xh_ui h1 1 1 (Int32.ofInt 0)).2.1 3 8)).2.1 1 1 = 0 := (gx_o (by decide)).trans gx_s
      have d7 : xg 0 (xh_ui (xh_ui h1 1 1 (Int32.ofInt 0)) 0 11 (xg 0 (xh_ui h1 1 1 (Int32.ofInt 0)).2.1 3 8)).2.1 3 7 = xg 0 h1.2.1 3 7 := (gx_o (by decide)).trans (gx_o (by decide))
      have d9 : xg 0 (xh_ui (xh_ui h1 1 1 (Int32.ofInt 0)) 0 11 (xg 0 (xh_ui h1 1 1 (Int32.ofInt 0)).2.1 3 8)).2.1 3 9 = xg 0 h1.2.1 3 9 := (gx_o (by decide)).trans (gx_o (by decide))
      cases r with
      | inr e =>
        obtain ⟨k, pl⟩ := e
        obtain ⟨o1, o2⟩ := hO.2 _ _ rfl
        obtain ⟨k1, k4⟩ := Tx_k hX
        refine xb_P (Q1 := fun v h' => hk ss_md h h' ∧ (xg 0 h'.2.1 1 1 = 0 ∧ s9_A T n mem sc td f (xg 0 h.2.1 0 11) v h') ∧ cst h h' sc ∧ cnw h h' T n mem sc f) ?_ (fun v h' z => ⟨hl_hk z.1 hn hp, z.2, by decide, by decide⟩)
        refine xa_tn 82 [] [] [.int ((Int32.ofInt (-1)) - (xg 0 (xh_ui (xh_ui h1 1 1 (Int32.ofInt 0)) 0 11 (xg 0 (xh_ui h1 1 1 (Int32.ofInt 0)).2.1 3 8)).2.1 3 9))] (xh_ui (xh_ui h1 1 1 (Int32.ofInt 0)) 0 11 (xg 0 (xh_ui h1 1 1 (Int32.ofInt 0)).2.1 3 8)) [false] 19 q1 rfl ⟨(show xe_c .eq (xg 0 (xh_ui (xh_ui h1 1 1 (Int32.ofInt 0)) 0 11 (xg 0 (xh_ui h1 1 1 (Int32.ofInt 0)).2.1 3 8)).2.1 0 11) 0 = false by rw [d11, o1]; exact xeq_f (by rw [nI_toInt (by omega)]; show ((k : Nat) : Int) ≠ 0; omega)), trivial⟩ (fun _ => ?_)
        rw [d9, o2]
        exact xp_ret rfl rfl rfl ⟨kb, ⟨d1, fun z => absurd z nsr, fun _ => ⟨j, _, hX, fun _ e => (by cases e), fun _ _ e => by cases e; exact ⟨rfl, d8, d11.trans o1⟩⟩⟩, cs1, fun z => (nI_8 sc8 (d8.symm.trans z)).elim⟩
      | inl m =>
        obtain ⟨o1, o2, o3⟩ := hO.1 _ rfl
        refine xb_tn 83 [0, 1] [(0, .ref 0), (1, .int f)] [] (xh_ui (xh_ui h1 1 1 (Int32.ofInt 0)) 0 11 (xg 0 (xh_ui h1 1 1 (Int32.ofInt 0)).2.1 3 8)) [true] 14 q1 rfl ⟨(show xe_c .eq (xg 0 (xh_ui (xh_ui h1 1 1 (Int32.ofInt 0)) 0 11 (xg 0 (xh_ui h1 1 1 (Int32.ofInt 0)).2.1 3 8)).2.1 0 11) 0 = true by rw [d11, o1]; rfl), trivial⟩ (fun _ => ?_)
        have tg : tx_G T n mem (xh_ui (xh_ui h1 1 1 (Int32.ofInt 0)) 0 11 (xg 0 (xh_ui h1 1 1 (Int32.ofInt 0)).2.1 3 8)) := by
          rcases hG with ⟨P, pt, l4, tv⟩ | ⟨k, k1, k2, k3⟩
          · exact ⟨P, ptx_f (S := fun c k => Nat.beq c 1 || Nat.beq c 0) (L := fN) pt (fx_ui (fx_ui fx_0 rfl) rfl) rfl (fun _ => rfl) (fun _ => rfl), l4, tv⟩
          · rw [o1] at k1
            have k4 := congrArg Int32.toInt k1
            rw [nI_toInt (by omega), nI_toInt (by omega)] at k4
            omega
        have dm : xg 0 (xh_ui (xh_ui h1 1 1 (Int32.ofInt 0)) 0 11 (xg 0 (xh_ui h1 1 1 (Int32.ofInt 0)).2.1 3 8)).2.1 0 9 = nI mem := (gx_k (by decide)).trans ((gx_o (by decide)).trans ((fx_i gx rfl).trans e9))
        have dl : (xh_ui (xh_ui h1 1 1 (Int32.ofInt 0)) 0 11 (xg 0 (xh_ui h1 1 1 (Int32.ofInt 0)).2.1 3 8)).1 = h.1 := gx.1
        generalize xh_ui (xh_ui h1 1 1 (Int32.ofInt 0)) 0 11 (xg 0 (xh_ui h1 1 1 (Int32.ofInt 0)).2.1 3 8) = h2 at kb d8 d11 d1 d7 d9 cs1 tg dm dl ⊢
        obtain ⟨v, h', c, s, r, z1, ⟨⟨z2, z3, z4, z5⟩, cs2, cn2⟩, z6⟩ := s9_new3 (d := d) (m := m) (sc := sc) (f := f) (hk_n kb hn) (by rw [kb.2.1]; exact hp) kb.1 d8 (by omega) (d7.trans o2) f9 m12 dm tg
        refine ⟨v, h', c, s, r, ⟨z1.1, z1.2.1, z1.2.2.1, a_fr_t kb.2.2 z1.2.2.2 (fun _ z => z)⟩, ⟨⟨z3.trans d1, fun z => absurd z nsr, fun _ => ⟨j, _, hX, fun _ e => ?_, fun _ _ e => (by cases e)⟩⟩, cst_t cs1 cs2, by unfold cnw at cn2 ⊢; rw [dl] at cn2; exact cn2⟩, z6⟩
        cases e
        exact ⟨z2, o3, z4, z5.trans (d11.trans o1)⟩
end XSR2
end
section
section XIF
/-- the statute in force: the last of those with the greatest day that has come -/
def iF (FR : Nat → Int32) (ok : Nat → Bool) (d : Int32) : Nat → Option Nat
  | 0 => none
  | k + 1 => (match iF FR ok d k with
    | none => if (ok k && !xe_c .gt (FR k) d) = true then some k else none
    | some j => if (ok k && (!xe_c .gt (FR k) d && !xe_c .lt (FR k) (FR j))) = true then some k else some j)
theorem iF_lt {FR : Nat → Int32} {ok : Nat → Bool} {d : Int32} : ∀ {n j : Nat}, iF FR ok d n = some j → j < n := by
  intro n
  induction n with
  | zero => intro j h; cases h
  | succ n ih =>
    intro j h
    unfold iF at h
    cases e : iF FR ok d n with
    | none =>
      rw [e] at h
      dsimp only at h
      split at h
      · cases h; omega
      · cases h
    | some i =>
      rw [e] at h
      have := ih e
      dsimp only at h
      split at h
      · cases h; omega
      · cases h; omega
theorem iF_c {FR FR' : Nat → Int32} {ok ok' : Nat → Bool} {d : Int32} : ∀ {n : Nat}, (∀ k, k < n → FR k = FR' k) → (∀ k, k < n → ok k = ok' k) → iF FR ok d n = iF FR' ok' d n := by
  intro n
  induction n with
  | zero => intro _ _; rfl
  | succ n ih =>
    intro e1 e2
    have e := ih (fun k hk' => e1 k (by omega)) (fun k hk' => e2 k (by omega))
    unfold iF
    rw [e, e1 n (by omega), e2 n (by omega)]
    cases h : iF FR' ok' d n with
    | none => rfl
    | some j =>
      dsimp only
      rw [e1 j (by have := iF_lt h; omega)]
/-- one statute, in the class and in the reference -/
def st1 (h : xh_H) (mem k : Nat) : Prop := ∃ q, 72 ≤ q ∧ q % 2 = 0 ∧ q + 1 < h.1.length ∧ xg none h.2.2.2 13 k = some q ∧ xg none h.2.2.2 q 1 = some (q + 1) ∧ xg 0 h.2.1 q 0 = xg 0 h.2.1 51 k ∧ 0 ≤ (xg 0 h.2.1 51 k).toInt ∧ ((xg 0 h.2.1 52 k).toInt ≤ (xg 0 h.2.1 51 k).toInt ∧ (xg 0 h.2.1 51 k).toInt ≤ 999) ∧ ∀ s, s < 2 ^ mem → bl (hv h (q + 1) s) = xg 0 h.2.1 44 (4096 * k + s)
/-- the statutes, in the class and in the reference -/
def SI (h : xh_H) : Prop := (xg 0 h.2.1 11 0 = Int32.ofInt (-1) ∧ xg none h.2.2.2 0 2 = some 11 ∧ xg none h.2.2.2 11 1 = some 12) ∧ ∀ mem sc, xg 0 h.2.1 0 9 = nI mem → mem ≤ 12 → xg 0 h.2.1 0 8 = nI sc → sc ≤ 8 → (∀ k, k < sc → st1 h mem k) ∧ ∀ s, s < 4096 → hv h 12 s = decide (s = 2 ^ mem - 1)
theorem st_sh {h : xh_H} {q : Nat} (hi : a_inv a_tb h) (q72 : 72 ≤ q) (qe : q % 2 = 0) (ql : q + 1 < h.1.length) : h.1[q]? = some (0, 7) ∧ h.1[q + 1]? = some (4, 64) := by
  refine ⟨(law_sh hi.1 ⟨by omega, a_tg_e q72 qe⟩).1, ?_⟩
  obtain ⟨s, es⟩ : ∃ s, h.1[q + 1]? = some s := ⟨_, List.getElem?_eq_getElem ql⟩
  obtain ⟨g1, -⟩ := hi.1 (q + 1) s es
  rw [a_tg_o (by omega) (by omega)] at g1
  rw [es]
  exact g1.symm
theorem xe_gi {c pc nL d len rK ri : Nat} {idx : Nat} {lv : List (Nat × Value)} {q : List Value} {h : xh_H} (hs : h.1[c]? = some (0, 7)) : xe_2 none nL (.getfield idx, len, 7, 0, rK, ri) d pc lv (.ref c :: q) h 0 0 = some (pc + 3, lv, .int (xg 0 h.2.1 c 0) :: q, h, 0, 0) := by
  have e1 : xe_1 nL (.getfield idx, len, 7, 0, rK, ri) pc lv (.ref c :: q) h 0 0 = some (pc + 3, lv, .int (xg 0 h.2.1 c 0) :: q, h, 0, 0) := by
    unfold xe_1 xp_r
    try dsimp only
    rw [hs]
    rfl
  unfold xe_2
  rw [e1]
theorem xe_aa {i : Int32} {c n t ra rb pc nL d len rK ri : Nat} {lv : List (Nat × Value)} {q : List Value} {h : xh_H} (hs : h.1[c]? = some (5, n)) (hi : xe_in i n = true) (hg : xg none h.2.2.2 c i.toNatClampNeg = some t) : xe_2 none nL (.aaload, len, ra, rb, rK, ri) d pc lv (.int i :: .ref c :: q) h 0 0 = some (pc + 1, lv, .ref t :: q, h, 0, 0) := by
  have e1 : xe_1 nL (.aaload, len, ra, rb, rK, ri) pc lv (.int i :: .ref c :: q) h 0 0 = some (pc + 1, lv, .ref t :: q, h, 0, 0) := by
    unfold xe_1 xp_ir
    try dsimp only
    rw [hs]
    show (cond (xe_in i n) (some (pc + 1, lv, va_rf (xg none h.2.2.2 c i.toNatClampNeg) :: q, h, 0, 0)) none) = _
    rw [hi, hg]
    rfl
  unfold xe_2
  rw [e1]
/-- where the statute in force lies in the class -/
def fD (h : xh_H) (Q : Nat) (o : Option Nat) : Prop := h.1[Q]? = some (0, 7) ∧ ((o = none ∧ Q = 11 ∧ xg 0 h.2.1 Q 0 = Int32.ofInt (-1)) ∨ ∃ j, o = some j ∧ xg none h.2.2.2 13 j = some Q ∧ xg 0 h.2.1 Q 0 = xg 0 h.2.1 51 j)
set_option maxRecDepth 100000 in
set_option maxHeartbeats 4000000 in
theorem if9_lp {h : xh_H} {mem sc : Nat} {d : Int32} (hi : a_inv a_tb h) (e8 : xg 0 h.2.1 0 8 = nI sc) (sc8 : sc ≤ 8) (S : ∀ k, k < sc → st1 h mem k) (hq : a_rq a_tb h) : ∀ (f i Q : Nat), i ≤ sc → fD h Q (iF (fun k => xg 0 h.2.1 51 k) (fun _ => true) d i) → xq f xi_X9_inForce xmi_X9_inForce 7 [(0, .ref 0), (1, .int d), (2, .ref Q), (3, .int (nI i))] [] h (fun v h' => h = h' ∧ ∃ Q, v = some (.ref Q) ∧ fD h Q (iF (fun k => xg 0 h.2.1 51 k) (fun _ => true) d sc)) := by
  intro f
  induction f with
  | zero => intros; exact xq_0
  | succ f ih =>
    intro i Q hi' fd
    by_cases e : i = sc
    · refine xq_m 59 [] [] [.ref Q] h [true] 6 hq rfl ⟨(show xe_c .ge (nI i) (xg 0 h.2.1 0 8) = true by rw [e8, e]; exact decide_eq_true (Int32.le_refl _)), trivial⟩ (fun _ => ?_)
      rw [e] at fd
      exact xq_ret rfl rfl rfl ⟨rfl, Q, rfl, fd⟩
    · have il : i < sc := by omega
      obtain ⟨q, q72, qe, ql, q1, q2, q3, q4, q5, q6⟩ := S i il
      obtain ⟨hs, hr⟩ := st_sh hi q72 qe ql
      have s13 : h.1[13]? = some (5, 8) := hq.2.1 13 _ rfl
      refine xq_m 20 [0, 1, 2, 3] [(0, .ref 0), (1, .int d), (2, .ref Q), (3, .int (nI i))] [.int (nI i), .ref 13] h [false] 8 hq rfl ⟨(show xe_c .ge (nI i) (xg 0 h.2.1 0 8) = false by rw [e8]; exact nge_f (by omega) (by omega) il), trivial⟩ (fun _ => ?_)
      refine xq_st rfl rfl (fun _ _ => xe_aa s13 (xin_n (by omega) (by omega)) (by rw [nI_clamp (by omega)]; exact q1)) ?_
      refine xq_n 25 [0, 1, 2, 3, 4] [(0, .ref 0), (1, .int d), (2, .ref Q), (3, .int (nI i)), (4, .ref q)] [.ref q] h [] 4 hq rfl trivial (fun _ => ?_)
      refine xq_st (pc1 := 28) (st1 := []) (h1 := h) rfl rfl (fun _ _ => rfl) ?_
      refine xq_n 30 [0, 1, 2, 3, 4] [(0, .ref 0), (1, .int d), (2, .ref Q), (3, .int (nI i)), (4, .ref q)] [.ref q] h [] 3 hq rfl trivial (fun _ => ?_)
      refine xq_st rfl rfl (fun _ _ => xe_gi hs) ?_
      have EU : iF (fun k => xg 0 h.2.1 51 k) (fun _ => true) d (i + 1) = (match iF (fun k => xg 0 h.2.1 51 k) (fun _ => true) d i with
        | none => if (true && !xe_c .gt (xg 0 h.2.1 51 i) d) = true then some i else none
        | some j => if (true && (!xe_c .gt (xg 0 h.2.1 51 i) d && !xe_c .lt (xg 0 h.2.1 51 i) (xg 0 h.2.1 51 j))) = true then some i else some j) := rfl
      have nx : nI i + Int32.ofInt 1 = nI (i + 1) := nI_1 i
      cases c1 : xe_c .gt (xg 0 h.2.1 51 i) d with
      | true =>
        refine xq_n 7 [0, 1, 2, 3] [(0, .ref 0), (1, .int d), (2, .ref Q), (3, .int ((nI i) + Int32.ofInt 1))] [] h [true] 6 hq rfl ⟨(show xe_c .gt (xg 0 h.2.1 q 0) d = true by rw [q3]; exact c1), trivial⟩ (fun _ => ?_)
        rw [nx]
        refine ih (i + 1) Q il ?_
        rw [EU]
        cases hI : iF (fun k => xg 0 h.2.1 51 k) (fun _ => true) d i with
        | none => rw [hI] at fd; dsimp only; rw [c1]; exact fd
        | some j => rw [hI] at fd; dsimp only; rw [c1]; exact fd
      | false =>
        refine xq_n 39 [0, 1, 2, 3, 4] [(0, .ref 0), (1, .int d), (2, .ref Q), (3, .int (nI i)), (4, .ref q)] [.ref q] h [false] 5 hq rfl ⟨(show xe_c .gt (xg 0 h.2.1 q 0) d = false by rw [q3]; exact c1), trivial⟩ (fun _ => ?_)
        refine xq_st rfl rfl (fun _ _ => xe_gi hs) ?_
        refine xq_n 43 [0, 1, 2, 3, 4] [(0, .ref 0), (1, .int d), (2, .ref Q), (3, .int (nI i)), (4, .ref q)] [.ref Q, .int (xg 0 h.2.1 q 0)] h [] 3 hq rfl trivial (fun _ => ?_)
        refine xq_st rfl rfl (fun _ _ => xe_gi fd.1) ?_
        rw [q3]
        cases c2 : xe_c .lt (xg 0 h.2.1 51 i) (xg 0 h.2.1 Q 0) with
        | true =>
          refine xq_n 7 [0, 1, 2, 3] [(0, .ref 0), (1, .int d), (2, .ref Q), (3, .int ((nI i) + Int32.ofInt 1))] [] h [true] 5 hq rfl ⟨c2, trivial⟩ (fun _ => ?_)
          rw [nx]
          refine ih (i + 1) Q il ?_
          rw [EU]
          rcases fd with ⟨f0, ⟨f1, f2, f3⟩ | ⟨j, f1, f2, f3⟩⟩
          · rw [f3] at c2
            have := a_ce c2
            have e1 : (Int32.ofInt (-1)).toInt = -1 := rfl
            have this : (xg 0 h.2.1 51 i).toInt < (Int32.ofInt (-1)).toInt := this
            rw [e1] at this
            omega
          · rw [f1]
            dsimp only
            rw [f3] at c2
            rw [c2, Bool.not_true, Bool.and_false, Bool.and_false]
            exact ⟨f0, Or.inr ⟨j, rfl, f2, f3⟩⟩
        | false =>
          refine xq_n 7 [0, 1, 2, 3] [(0, .ref 0), (1, .int d), (2, .ref q), (3, .int ((nI i) + Int32.ofInt 1))] [] h [false] 7 hq rfl ⟨c2, trivial⟩ (fun _ => ?_)
          rw [nx]
          refine ih (i + 1) q il ?_
          rw [EU]
          refine ⟨hs, Or.inr ⟨i, ?_, q1, q3⟩⟩
          rcases fd with ⟨f0, ⟨f1, f2, f3⟩ | ⟨j, f1, f2, f3⟩⟩
          · rw [f1]
            dsimp only
            rw [c1]
            rfl
          · rw [f1]
            dsimp only
            rw [f3] at c2
            rw [c1, c2]
            rfl
set_option maxRecDepth 100000 in
/-- CarryHouse.inForce -/
theorem if9_q {f : Nat} {h : xh_H} {mem sc : Nat} {d : Int32} (hi : a_inv a_tb h) (e8 : xg 0 h.2.1 0 8 = nI sc) (sc8 : sc ≤ 8) (u : xg 0 h.2.1 11 0 = Int32.ofInt (-1)) (u2 : xg none h.2.2.2 0 2 = some 11) (S : ∀ k, k < sc → st1 h mem k) (hq : a_rq a_tb h) : xq f xi_X9_inForce xmi_X9_inForce 0 [(0, .ref 0), (1, .int d)] [] h (fun v h' => h = h' ∧ ∃ Q, v = some (.ref Q) ∧ fD h Q (iF (fun k => xg 0 h.2.1 51 k) (fun _ => true) d sc)) := by
  refine xq_n 1 [0, 1] [(0, .ref 0), (1, .int d)] [.ref 0] h [] 3 hq rfl trivial (fun _ => ?_)
  refine xq_st rfl rfl (fun _ _ => xe_gr (hq.2.1 0 _ rfl) rfl u2) ?_
  refine xq_n 7 [0, 1, 2, 3] [(0, .ref 0), (1, .int d), (2, .ref 11), (3, .int (Int32.ofInt 0))] [] h [] 5 hq rfl trivial (fun _ => ?_)
  exact if9_lp hi e8 sc8 S hq f 0 11 (Nat.zero_le _) ⟨hq.2.1 11 _ rfl, Or.inl ⟨rfl, rfl, u⟩⟩
/-- whether a set carries by the statute in force -/
def cvo (RW : Nat → Int32) (mem s : Nat) (o : Option Nat) : Bool := match o with
  | none => decide (s = 2 ^ mem - 1)
  | some k => decide (RW (4096 * k + s) = 1)
def cvB (FR RW : Nat → Int32) (mem sc : Nat) (d : Int32) (s : Nat) : Bool := cvo RW mem s (iF FR (fun _ => true) d sc)
theorem cvB_c {FR FR' RW RW' : Nat → Int32} {mem sc s : Nat} {d : Int32} (e1 : ∀ k, k < sc → FR k = FR' k) (e2 : ∀ k, RW k = RW' k) : cvB FR RW mem sc d s = cvB FR' RW' mem sc d s := by
  unfold cvB
  rw [iF_c e1 (fun _ _ => rfl)]
  cases iF FR' (fun _ => true) d sc with
  | none => rfl
  | some k => unfold cvo; dsimp only; rw [e2]
theorem hv_cv {h : xh_H} {mem sc s Q : Nat} {d : Int32} (hi : a_inv a_tb h) (m12 : mem ≤ 12) (S : ∀ k, k < sc → st1 h mem k) (un : ∀ s, s < 4096 → hv h 12 s = decide (s = 2 ^ mem - 1)) (u3 : xg none h.2.2.2 11 1 = some 12) (hq : a_rq a_tb h) (hs : s < 2 ^ mem) (fd : fD h Q (iF (fun k => xg 0 h.2.1 51 k) (fun _ => true) d sc)) : ∃ r, xg none h.2.2.2 Q 1 = some r ∧ h.1[r]? = some (4, 64) ∧ hv h r s = cvB (fun k => xg 0 h.2.1 51 k) (fun k => xg 0 h.2.1 44 k) mem sc d s := by
  have p12 : 2 ^ mem ≤ 4096 := show 2 ^ mem ≤ 2 ^ 12 from Nat.pow_le_pow_right (by decide) m12
  unfold cvB
  rcases fd with ⟨f0, ⟨f1, f2, f3⟩ | ⟨j, f1, f2, f3⟩⟩
  · refine ⟨12, by rw [f2]; exact u3, hq.2.1 12 _ rfl, ?_⟩
    rw [f1]
    exact un s (by omega)
  · obtain ⟨q, q72, qe, ql, q1, q2, q3, q4, q5, q6⟩ := S j (iF_lt f1)
    rw [q1] at f2
    obtain rfl : q = Q := Option.some.inj f2
    refine ⟨q + 1, q2, (st_sh hi q72 qe ql).2, ?_⟩
    rw [f1]
    show hv h (q + 1) s = decide (xg 0 h.2.1 44 (4096 * j + s) = 1)
    rw [← q6 s hs]
    cases hv h (q + 1) s <;> rfl
/-- what the reference's inForce answers -/
def oN (o : Option Nat) : Int32 := match o with
  | none => Int32.ofInt (-1)
  | some k => nI k
set_option maxRecDepth 100000 in
set_option maxHeartbeats 4000000 in
theorem if10_lp {h : xh_H} {sc : Nat} {FR TD : Nat → Int32} {d t : Int32} (e33 : xg 0 h.2.1 39 33 = nI sc) (sc8 : sc ≤ 8) (hF : ∀ k, k < sc → xg 0 h.2.1 51 k = FR k) (hT : ∀ k, k < sc → xg 0 h.2.1 52 k = TD k) (hq : a_rq a_tb h) : ∀ (f i : Nat), i ≤ sc → xq f xi_X10_inForce xmi_X10_inForce 5 [(0, .ref 39), (1, .int d), (2, .int t), (3, .int (oN (iF FR (fun k => !xe_c .gt (TD k) t) d i))), (4, .int (nI i))] [] h (fun v h' => h = h' ∧ v = some (.int (oN (iF FR (fun k => !xe_c .gt (TD k) t) d sc)))) := by
  intro f
  induction f with
  | zero => intros; exact xq_0
  | succ f ih =>
    intro i hi'
    by_cases e : i = sc
    · refine xq_m 67 [] [] [.int (oN (iF FR (fun k => !xe_c .gt (TD k) t) d i))] h [true] 6 hq rfl ⟨(show xe_c .ge (nI i) (xg 0 h.2.1 39 33) = true by rw [e33, e]; exact decide_eq_true (Int32.le_refl _)), trivial⟩ (fun _ => ?_)
      rw [e]
      exact xq_ret rfl rfl rfl ⟨rfl, rfl⟩
    · have il : i < sc := by omega
      have r52 : xg 0 h.2.1 52 (nI i).toNatClampNeg = TD i := by rw [nI_clamp (by omega)]; exact hT i il
      have r51 : xg 0 h.2.1 51 (nI i).toNatClampNeg = FR i := by rw [nI_clamp (by omega)]; exact hF i il
      have g0 : xe_c .ge (nI i) (xg 0 h.2.1 39 33) = false := by rw [e33]; exact nge_f (by omega) (by omega) il
      have nx : nI i + Int32.ofInt 1 = nI (i + 1) := nI_1 i
      have EU : iF FR (fun k => !xe_c .gt (TD k) t) d (i + 1) = (match iF FR (fun k => !xe_c .gt (TD k) t) d i with
        | none => if (!xe_c .gt (TD i) t && !xe_c .gt (FR i) d) = true then some i else none
        | some j => if (!xe_c .gt (TD i) t && (!xe_c .gt (FR i) d && !xe_c .lt (FR i) (FR j))) = true then some i else some j) := rfl
      cases c1 : xe_c .gt (TD i) t with
      | true =>
        refine xq_m 5 [0, 1, 2, 3, 4] [(0, .ref 39), (1, .int d), (2, .int t), (3, .int (oN (iF FR (fun k => !xe_c .gt (TD k) t) d i))), (4, .int ((nI i) + Int32.ofInt 1))] [] h [false, true] 14 hq rfl ⟨g0, (show xe_c .gt (xg 0 h.2.1 52 (nI i).toNatClampNeg) t = true by rw [r52]; exact c1), trivial⟩ (fun _ => ?_)
        rw [nx, show iF FR (fun k => !xe_c .gt (TD k) t) d i = iF FR (fun k => !xe_c .gt (TD k) t) d (i + 1) from by rw [EU]; cases iF FR (fun k => !xe_c .gt (TD k) t) d i <;> (dsimp only; rw [c1]; rfl)]
        exact ih (i + 1) il
      | false =>
        cases c2 : xe_c .gt (FR i) d with
        | true =>
          refine xq_m 5 [0, 1, 2, 3, 4] [(0, .ref 39), (1, .int d), (2, .int t), (3, .int (oN (iF FR (fun k => !xe_c .gt (TD k) t) d i))), (4, .int ((nI i) + Int32.ofInt 1))] [] h [false, false, true] 20 hq rfl ⟨g0, (show xe_c .gt (xg 0 h.2.1 52 (nI i).toNatClampNeg) t = false by rw [r52]; exact c1), (show xe_c .gt (xg 0 h.2.1 51 (nI i).toNatClampNeg) d = true by rw [r51]; exact c2), trivial⟩ (fun _ => ?_)
          rw [nx, show iF FR (fun k => !xe_c .gt (TD k) t) d i = iF FR (fun k => !xe_c .gt (TD k) t) d (i + 1) from by rw [EU]; cases iF FR (fun k => !xe_c .gt (TD k) t) d i <;> (dsimp only; rw [c1, c2]; rfl)]
          exact ih (i + 1) il
        | false =>
          cases hI : iF FR (fun k => !xe_c .gt (TD k) t) d i with
          | none =>
            refine xq_m 5 [0, 1, 2, 3, 4] [(0, .ref 39), (1, .int d), (2, .int t), (3, .int (nI i)), (4, .int ((nI i) + Int32.ofInt 1))] [] h [false, false, false, true] 24 hq rfl ⟨g0, (show xe_c .gt (xg 0 h.2.1 52 (nI i).toNatClampNeg) t = false by rw [r52]; exact c1), (show xe_c .gt (xg 0 h.2.1 51 (nI i).toNatClampNeg) d = false by rw [r51]; exact c2), (show xe_c .eq (Int32.ofInt (-1)) (Int32.ofInt (-1)) = true from rfl), trivial⟩ (fun _ => ?_)
            rw [nx]
            have e2 : iF FR (fun k => !xe_c .gt (TD k) t) d (i + 1) = some i := by rw [EU, hI]; dsimp only; rw [c1, c2]; rfl
            have r := ih (i + 1) il
            rw [e2] at r
            exact r
          | some j =>
            have jl := iF_lt hI
            have r5j : xg 0 h.2.1 51 (nI j).toNatClampNeg = FR j := by rw [nI_clamp (by omega)]; exact hF j (by omega)
            have n1 : xe_c .eq (nI j) (Int32.ofInt (-1)) = false := decide_eq_false (fun z => nIm1 (by omega) z)
            cases c3 : xe_c .lt (FR i) (FR j) with
            | true =>
              refine xq_m 5 [0, 1, 2, 3, 4] [(0, .ref 39), (1, .int d), (2, .int t), (3, .int (nI j)), (4, .int ((nI i) + Int32.ofInt 1))] [] h [false, false, false, false, true] 31 hq rfl ⟨g0, (show xe_c .gt (xg 0 h.2.1 52 (nI i).toNatClampNeg) t = false by rw [r52]; exact c1), (show xe_c .gt (xg 0 h.2.1 51 (nI i).toNatClampNeg) d = false by rw [r51]; exact c2), n1, (show xe_c .lt (xg 0 h.2.1 51 (nI i).toNatClampNeg) (xg 0 h.2.1 51 (nI j).toNatClampNeg) = true by rw [r51, r5j]; exact c3), trivial⟩ (fun _ => ?_)
              rw [nx]
              have e2 : iF FR (fun k => !xe_c .gt (TD k) t) d (i + 1) = some j := by rw [EU, hI]; dsimp only; rw [c1, c2, c3]; rfl
              have r := ih (i + 1) il
              rw [e2] at r
              exact r
            | false =>
              refine xq_m 5 [0, 1, 2, 3, 4] [(0, .ref 39), (1, .int d), (2, .int t), (3, .int (nI i)), (4, .int ((nI i) + Int32.ofInt 1))] [] h [false, false, false, false, false] 36 hq rfl ⟨g0, (show xe_c .gt (xg 0 h.2.1 52 (nI i).toNatClampNeg) t = false by rw [r52]; exact c1), (show xe_c .gt (xg 0 h.2.1 51 (nI i).toNatClampNeg) d = false by rw [r51]; exact c2), n1, (show xe_c .lt (xg 0 h.2.1 51 (nI i).toNatClampNeg) (xg 0 h.2.1 51 (nI j).toNatClampNeg) = false by rw [r51, r5j]; exact c3), trivial⟩ (fun _ => ?_)
              rw [nx]
              have e2 : iF FR (fun k => !xe_c .gt (TD k) t) d (i + 1) = some i := by rw [EU, hI]; dsimp only; rw [c1, c2, c3]; rfl
              have r := ih (i + 1) il
              rw [e2] at r
              exact r
set_option maxRecDepth 100000 in
/-- X10.inForce -/
theorem if10_q {f : Nat} {h : xh_H} {sc : Nat} {FR TD : Nat → Int32} {d t : Int32} (e33 : xg 0 h.2.1 39 33 = nI sc) (sc8 : sc ≤ 8) (hF : ∀ k, k < sc → xg 0 h.2.1 51 k = FR k) (hT : ∀ k, k < sc → xg 0 h.2.1 52 k = TD k) (hq : a_rq a_tb h) : xq f xi_X10_inForce xmi_X10_inForce 0 [(0, .ref 39), (1, .int d), (2, .int t)] [] h (fun v h' => h = h' ∧ v = some (.int (oN (iF FR (fun k => !xe_c .gt (TD k) t) d sc)))) := by
  refine xq_n 5 [0, 1, 2, 3, 4] [(0, .ref 39), (1, .int d), (2, .int t), (3, .int (Int32.ofInt (-1))), (4, .int (Int32.ofInt 0))] [] h [] 6 hq rfl trivial (fun _ => ?_)
  exact if10_lp e33 sc8 hF hT hq f 0 (Nat.zero_le _)
set_option maxRecDepth 100000 in
set_option maxHeartbeats 4000000 in
/-- X10.carriesBy -/
theorem cb10_q {f : Nat} {h : xh_H} {mem s : Nat} {o : Option Nat} {RW : Nat → Int32} (e4 : xg 0 h.2.1 39 4 = nI mem) (m12 : mem ≤ 12) (hs : s < 4096) (ho : ∀ k, o = some k → k < 8 ∧ ∃ b : Bool, RW (4096 * k + s) = bl b ∧ xg 0 h.2.1 44 (4096 * k + s) = bl b) (hq : a_rq a_tb h) : xq f xi_X10_carriesBy xmi_X10_carriesBy 0 [(0, .ref 39), (1, .int (oN o)), (2, .int (nI s))] [] h (fun v h' => h = h' ∧ v = some (.int (bl (cvo RW mem s o)))) := by
  have p12 : 2 ^ mem ≤ 4096 := show 2 ^ mem ≤ 2 ^ 12 from Nat.pow_le_pow_right (by decide) m12
  have p0 := Nat.two_pow_pos mem
  cases o with
  | none =>
    have em : Int32.ofInt 1 <<< (xg 0 h.2.1 39 4 &&& 31) - Int32.ofInt 1 = nI (2 ^ mem - 1) := by rw [e4, sh1 mem (by omega)]; exact nI_sub (b := 1) (by omega)
    by_cases z : s = 2 ^ mem - 1
    · refine xq_n 37 [] [] [.int (Int32.ofInt 1)] h [false, false] 20 hq rfl ⟨(show xe_c .ne (Int32.ofInt (-1)) (Int32.ofInt (-1)) = false from rfl), (show xe_c .ne (nI s) (Int32.ofInt 1 <<< (xg 0 h.2.1 39 4 &&& 31) - Int32.ofInt 1) = false by rw [em, z]; show (!decide (nI (2 ^ mem - 1) = nI (2 ^ mem - 1))) = false; rw [decide_eq_true rfl]; rfl), trivial⟩ (fun _ => ?_)
      exact xq_ret rfl rfl rfl ⟨rfl, by unfold cvo; dsimp only; rw [decide_eq_true z]; rfl⟩
    · refine xq_n 37 [] [] [.int (Int32.ofInt 0)] h [false, true] 20 hq rfl ⟨(show xe_c .ne (Int32.ofInt (-1)) (Int32.ofInt (-1)) = false from rfl), (show xe_c .ne (nI s) (Int32.ofInt 1 <<< (xg 0 h.2.1 39 4 &&& 31) - Int32.ofInt 1) = true by rw [em]; show (!decide (nI s = nI (2 ^ mem - 1))) = true; rw [decide_eq_false (fun y => z (by have y2 := congrArg Int32.toInt y; rw [nI_toInt (by omega), nI_toInt (by omega)] at y2; omega))]; rfl), trivial⟩ (fun _ => ?_)
      exact xq_ret rfl rfl rfl ⟨rfl, by unfold cvo; dsimp only; rw [decide_eq_false z]; rfl⟩
  | some k =>
    obtain ⟨k8, b, e1, e2⟩ := ho k rfl
    refine xq_n 37 [] [] [.int (xg 0 h.2.1 44 ((4096 * (nI k)) + (nI s)).toNatClampNeg)] h [true] 12 hq rfl ⟨(show xe_c .ne (nI k) (Int32.ofInt (-1)) = true by show (!decide (nI k = Int32.ofInt (-1))) = true; rw [decide_eq_false (nIm1 (by omega))]; rfl), trivial⟩ (fun _ => ?_)
    rw [show 4096 * nI k + nI s = nI (4096 * k + s) from idx_a, nI_clamp (by omega), e2]
    exact xq_ret rfl rfl rfl ⟨rfl, by unfold cvo; dsimp only; rw [e1]; cases b <;> rfl⟩
end XIF
end
section
section XCA
/-- what carries answers -/
def caV (FR RW : Nat → Int32) (mem sc : Nat) (x d : Int32) : Int32 := cond ((!xe_c .lt x 0 && !xe_c .ge x (Int32.ofInt 1 <<< (nI mem &&& 31))) && (!xe_c .lt d 0 && xe_c .le d 999)) (bl (cvB FR RW mem sc d x.toInt.toNat)) (Int32.ofInt (-1))
theorem inS_n {x : Int32} {mem : Nat} (m12 : mem ≤ 12) (h : (!xe_c .lt x 0 && !xe_c .ge x (Int32.ofInt 1 <<< (nI mem &&& 31))) = true) : ∃ s, x = nI s ∧ s < 2 ^ mem ∧ x.toInt.toNat = s := by
  simp only [Bool.and_eq_true, Bool.not_eq_true'] at h
  have p12 : 2 ^ mem ≤ 4096 := show 2 ^ mem ≤ 2 ^ 12 from Nat.pow_le_pow_right (by decide) m12
  have b1 : (0 : Int) ≤ x.toInt := a_ce (a_neg_ok h.1)
  have h2 := h.2
  rw [sh1 mem (by omega)] at h2
  have b2 : x.toInt < (nI (2 ^ mem)).toInt := a_ce (a_neg_ok h2)
  rw [nI_toInt (by omega)] at b2
  exact ⟨x.toInt.toNat, en_n (t := 0) (by omega), by omega, rfl⟩
set_option maxRecDepth 100000 in
set_option maxHeartbeats 4000000 in
theorem ca9_q {f mem sc : Nat} {x d : Int32} {h : xh_H} (hi : a_inv a_tb h) (e9 : xg 0 h.2.1 0 9 = nI mem) (m12 : mem ≤ 12) (e8 : xg 0 h.2.1 0 8 = nI sc) (sc8 : sc ≤ 8) (si : SI h) (hq : a_rq a_tb h) : xq f xi_X9_carries xmi_X9_carries 0 [(0, .ref 0), (1, .int x), (2, .int d)] [] h (fun v h' => v = some (.int (caV (fun k => xg 0 h.2.1 51 k) (fun k => xg 0 h.2.1 44 k) mem sc x d))) := by
  obtain ⟨⟨u1, u2, u3⟩, si⟩ := si
  obtain ⟨S, un⟩ := si mem sc e9 m12 e8 sc8
  have p12 : 2 ^ mem ≤ 4096 := show 2 ^ mem ≤ 2 ^ 12 from Nat.pow_le_pow_right (by decide) m12
  refine xq_n 2 [0, 1, 2] [(0, .ref 0), (1, .int x), (2, .int d)] [.int x, .ref 0] h [] 4 hq rfl trivial (fun _ => ?_)
  refine xq_run hq rfl rfl (set9_q (x := x) (z := nI mem) e9 hq) ?_
  rintro v h1 ⟨rfl, rfl⟩
  unfold caV
  cases hB : (!xe_c .lt x 0 && !xe_c .ge x (Int32.ofInt 1 <<< (nI mem &&& 31))) with
  | false =>
    refine xq_n 20 [] [] [.int (Int32.ofInt (-1))] h [true] 4 hq rfl ⟨rfl, trivial⟩ (fun _ => ?_)
    exact xq_ret rfl rfl rfl rfl
  | true =>
    cases c1 : xe_c .lt d 0 with
    | true =>
      refine xq_n 20 [] [] [.int (Int32.ofInt (-1))] h [false, true] 7 hq rfl ⟨rfl, c1, trivial⟩ (fun _ => ?_)
      exact xq_ret rfl rfl rfl rfl
    | false =>
      cases c2 : xe_c .le d 999 with
      | false =>
        refine xq_n 20 [] [] [.int (Int32.ofInt (-1))] h [false, false, false] 10 hq rfl ⟨rfl, c1, c2, trivial⟩ (fun _ => ?_)
        exact xq_ret rfl rfl rfl rfl
      | true =>
        obtain ⟨s, rfl, hs, es⟩ := inS_n m12 hB
        rw [es]
        refine xq_n 23 [0, 1, 2] [(0, .ref 0), (1, .int (nI s)), (2, .int d)] [.int d, .ref 0] h [false, false, true] 11 hq rfl ⟨rfl, c1, c2, trivial⟩ (fun _ => ?_)
        refine xq_run hq rfl rfl (if9_q hi e8 sc8 u1 u2 S hq) ?_
        rintro v h1 ⟨rfl, Q, rfl, fd⟩
        obtain ⟨r, g1, g2, g3⟩ := hv_cv hi m12 S un u3 hq hs fd
        refine xq_n 27 [1] [(1, .int (nI s))] [.int (nI s), .ref Q] h [] 3 hq rfl trivial (fun _ => ?_)
        refine xq_cr (As := [.ref Q, .int (nI s)]) (mj := xmi_X7_holds) (q := []) rfl rfl (fun _ _ => rfl) (xa_cs_ok (d := 0) (pc := 0) (lv := []) (nL := 0) fd.1 rfl).1 (fun f => xq_of (d := 0) ⟨_, rfl⟩ (ho_run hq fd.1 g1 g2 (by omega))) ?_
        rintro v h1 ⟨rfl, rfl⟩
        rw [g3]
        cases cvB (fun k => xg 0 h.2.1 51 k) (fun k => xg 0 h.2.1 44 k) mem sc d s with
        | true =>
          refine xq_n 38 [] [] [.int (Int32.ofInt 1)] h [false] 5 hq rfl ⟨rfl, trivial⟩ (fun _ => ?_)
          exact xq_ret rfl rfl rfl rfl
        | false =>
          refine xq_n 38 [] [] [.int (Int32.ofInt 0)] h [true] 5 hq rfl ⟨rfl, trivial⟩ (fun _ => ?_)
          exact xq_ret rfl rfl rfl rfl
/-- the told days are no later than the last day -/
theorem iF_td {FR TD : Nat → Int32} {d : Int32} {sc : Nat} (h : ∀ k, k < sc → (TD k).toInt ≤ 999) : iF FR (fun k => !xe_c .gt (TD k) 999) d sc = iF FR (fun _ => true) d sc := iF_c (fun _ _ => rfl) (fun k hk' => by
  rw [show xe_c .gt (TD k) 999 = false from xgt_f (by have := h k hk'; show (TD k).toInt ≤ 999; omega)]
  rfl)
set_option maxRecDepth 100000 in
set_option maxHeartbeats 4000000 in
theorem ca10_q {f mem sc : Nat} {x d : Int32} {FR RW : Nat → Int32} {h : xh_H} (e4 : xg 0 h.2.1 39 4 = nI mem) (m12 : mem ≤ 12) (e33 : xg 0 h.2.1 39 33 = nI sc) (sc8 : sc ≤ 8) (hF : ∀ k, k < sc → xg 0 h.2.1 51 k = FR k) (hT : ∀ k, k < sc → (xg 0 h.2.1 52 k).toInt ≤ 999) (hR : ∀ k s, k < sc → s < 2 ^ mem → ∃ b : Bool, RW (4096 * k + s) = bl b ∧ xg 0 h.2.1 44 (4096 * k + s) = bl b) (hq : a_rq a_tb h) : xq f xi_X10_carries xmi_X10_carries 0 [(0, .ref 39), (1, .int x), (2, .int d)] [] h (fun v h' => v = some (.int (caV FR RW mem sc x d))) := by
  have p12 : 2 ^ mem ≤ 4096 := show 2 ^ mem ≤ 2 ^ 12 from Nat.pow_le_pow_right (by decide) m12
  refine xq_n 7 [0, 1, 2] [(0, .ref 39), (1, .int x), (2, .int d)] [.int x, .ref 39] (xh_ui h 39 0 (Int32.ofInt 0)) [] 7 hq rfl trivial (fun _ => ?_)
  have hq : a_rq a_tb (xh_ui h 39 0 (Int32.ofInt 0)) := a_rq_ui hq
  have d4 : xg 0 (xh_ui h 39 0 (Int32.ofInt 0)).2.1 39 4 = nI mem := (gx_k (by decide)).trans e4
  have d33 : xg 0 (xh_ui h 39 0 (Int32.ofInt 0)).2.1 39 33 = nI sc := (gx_k (by decide)).trans e33
  have dF : ∀ k, k < sc → xg 0 (xh_ui h 39 0 (Int32.ofInt 0)).2.1 51 k = FR k := fun k hk' => (gx_o (by decide)).trans (hF k hk')
  have dT : ∀ k, k < sc → (xg 0 (xh_ui h 39 0 (Int32.ofInt 0)).2.1 52 k).toInt ≤ 999 := fun k hk' => by rw [gx_o (by decide)]; exact hT k hk'
  have dR : ∀ k s, k < sc → s < 2 ^ mem → ∃ b : Bool, RW (4096 * k + s) = bl b ∧ xg 0 (xh_ui h 39 0 (Int32.ofInt 0)).2.1 44 (4096 * k + s) = bl b := fun k s h1 h2 => by
    obtain ⟨b, b1, b2⟩ := hR k s h1 h2
    exact ⟨b, b1, (gx_o (by decide)).trans b2⟩
  generalize xh_ui h 39 0 (Int32.ofInt 0) = h0 at hq d4 d33 dF dT dR ⊢
  refine xq_run hq rfl rfl (set10_q (x := x) (z := nI mem) d4 hq) ?_
  rintro v h1 ⟨rfl, rfl⟩
  unfold caV
  cases hB : (!xe_c .lt x 0 && !xe_c .ge x (Int32.ofInt 1 <<< (nI mem &&& 31))) with
  | false =>
    refine xq_n 25 [] [] [.int (Int32.ofInt (-1))] h0 [true] 4 hq rfl ⟨rfl, trivial⟩ (fun _ => ?_)
    exact xq_ret rfl rfl rfl rfl
  | true =>
    obtain ⟨s, rfl, hs, es⟩ := inS_n m12 hB
    rw [es]
    refine xq_n 18 [0, 1, 2] [(0, .ref 39), (1, .int (nI s)), (2, .int d)] [.int 999, .int (Int32.ofInt 0), .int d] h0 [false] 6 hq rfl ⟨rfl, trivial⟩ (fun _ => ?_)
    refine xq_run hq rfl rfl (isIn_q hq) ?_
    rintro v h1 ⟨rfl, rfl⟩
    rw [in_c]
    cases hD : (!xe_c .lt d (Int32.ofInt 0) && xe_c .le d 999) with
    | false =>
      have hD' : (!xe_c .lt d 0 && xe_c .le d 999) = false := hD
      rw [hD']
      refine xq_n 25 [] [] [.int (Int32.ofInt (-1))] h0 [false] 4 hq rfl ⟨rfl, trivial⟩ (fun _ => ?_)
      exact xq_ret rfl rfl rfl rfl
    | true =>
      have hD' : (!xe_c .lt d 0 && xe_c .le d 999) = true := hD
      rw [hD']
      refine xq_n 32 [0, 1, 2] [(0, .ref 39), (1, .int (nI s)), (2, .int d)] [.int 999, .int d, .ref 39, .ref 39] h0 [true] 7 hq rfl ⟨rfl, trivial⟩ (fun _ => ?_)
      refine xq_run hq rfl rfl (if10_q (d := d) (t := 999) (TD := fun k => xg 0 h0.2.1 52 k) d33 sc8 dF (fun _ _ => rfl) hq) ?_
      rintro v h1 ⟨rfl, rfl⟩
      rw [iF_td dT]
      refine xq_n 36 [] [] [.int (nI s), .int (oN (iF FR (fun _ => true) d sc)), .ref 39] h0 [] 3 hq rfl trivial (fun _ => ?_)
      refine xq_run hq rfl rfl (cb10_q (RW := RW) d4 m12 (by omega) (fun k e => ⟨by have := iF_lt e; omega, dR k s (iF_lt e) hs⟩) hq) ?_
      rintro v h1 ⟨rfl, rfl⟩
      unfold cvB
      cases cvo RW mem s (iF FR (fun _ => true) d sc) with
      | true =>
        refine xq_n 47 [] [] [.int (Int32.ofInt 1)] h0 [false] 5 hq rfl ⟨rfl, trivial⟩ (fun _ => ?_)
        exact xq_ret rfl rfl rfl rfl
      | false =>
        refine xq_n 47 [] [] [.int (Int32.ofInt 0)] h0 [true] 5 hq rfl ⟨rfl, trivial⟩ (fun _ => ?_)
        exact xq_ret rfl rfl rfl rfl
end XCA
end
section
section XME
theorem xq_fz {f mid : Nat} {mi : xm_M} {pc : Nat} {lv : List (Nat × Value)} {st : List Value} {h : xh_H} (hm : fzM mid = true) : xq f mid mi pc lv st h (fun _ h' => Fz h h') := fun d lw v h' c s _ he => xe_x_fz fz_hM f d mid mi (pc, lw, st, h, 0, 0) v h' c s hm he
set_option maxRecDepth 100000 in
set_option maxHeartbeats 4000000 in
theorem nad_lp {q r m : Nat} {h0 : xh_H} (m12 : m ≤ 12) (hs : h0.1[q]? = some (0, 7)) (hg : xg none h0.2.2.2 q 1 = some r) (hr : h0.1[r]? = some (4, 64)) : ∀ (f i : Nat) (h : xh_H), a_rq a_tb h → fx fN (Lr r) h0 h → i ≤ 64 → (∀ j, j < i → xg 0 h.2.2.1 r j = 0) → xq f xi_X7_needAll xmi_X7_needAll 2 [(0, .ref q), (1, .int (nI m)), (2, .int (nI i))] [] h (fun v h' => v = none ∧ fx fN (Lr r) h0 h' ∧ ∀ t, t < 4096 → hv h' r t = decide (t = 2 ^ m - 1)) := by
  have p12 : 2 ^ m ≤ 4096 := show 2 ^ m ≤ 2 ^ 12 from Nat.pow_le_pow_right (by decide) m12
  have p0 := Nat.two_pow_pos m
  intro f
  induction f with
  | zero => intros; exact xq_0
  | succ f ih =>
    intro i h hq ge i6 w
    have hs' : h.1[q]? = some (0, 7) := by rw [ge.1]; exact hs
    have hr' : h.1[r]? = some (4, 64) := by rw [ge.1]; exact hr
    have hg' : xg none h.2.2.2 q 1 = some r := by rw [ge.2.1]; exact hg
    by_cases e : i = 64
    · have em : Int32.ofInt 1 <<< (nI m &&& 31) - Int32.ofInt 1 = nI (2 ^ m - 1) := by rw [sh1 m (by omega)]; exact nI_sub (b := 1) (by omega)
      refine xq_m 27 [] [] [.int (Int32.ofInt 1 <<< (nI m &&& 31) - Int32.ofInt 1), .ref q] h [true] 11 hq rfl ⟨(show xe_c .ge (nI i) 64 = true by rw [e]; rfl), trivial⟩ (fun _ => ?_)
      rw [em]
      refine xq_cr (As := [.ref q, .int (nI (2 ^ m - 1))]) (mj := xmi_X7_add) (q := []) rfl rfl (fun _ _ => rfl) (xa_cs_ok (d := 0) (pc := 0) (lv := []) (nL := 0) hs' rfl).1 (fun f => xq_of (d := 0) ⟨_, rfl⟩ (ad_run hq hs' hg' hr' (by omega))) ?_
      rintro v h1 ⟨rfl, rfl⟩
      refine xq_ret rfl rfl rfl ⟨rfl, fx_ul ge (Nat.beq_refl r), fun t t4 => ?_⟩
      rw [hv_ad t4, hv_lb, w (t / 64) (by omega), lb_0 (by omega), Bool.false_or]
      by_cases z : t = 2 ^ m - 1
      · rw [decide_eq_true z, decide_eq_true z.symm]
      · rw [decide_eq_false z, decide_eq_false (fun y => z y.symm)]
    · refine xq_m 9 [0, 1, 2] [(0, .ref q), (1, .int (nI m)), (2, .int (nI i))] [.ref q] h [false] 7 hq rfl ⟨(show xe_c .ge (nI i) 64 = false from nge_f (b := 64) (by omega) (by decide) (by omega)), trivial⟩ (fun _ => ?_)
      refine xq_st rfl rfl (fun _ _ => xe_gr hs' rfl hg') ?_
      refine xq_n 14 [0, 1, 2] [(0, .ref q), (1, .int (nI m)), (2, .int (nI i))] [.long 0, .int (nI i), .ref r] h [] 4 hq rfl trivial (fun _ => ?_)
      refine xq_st rfl rfl (fun _ _ => xe_ls hr' (xin_n (by omega) (by omega))) ?_
      rw [nI_clamp (by omega)]
      have hq : a_rq a_tb (xh_ul h r i 0) := a_rq_ul hq
      refine xq_n 2 [0, 1, 2] [(0, .ref q), (1, .int (nI m)), (2, .int ((nI i) + Int32.ofInt 1))] [] (xh_ul h r i 0) [] 4 hq rfl trivial (fun _ => ?_)
      rw [show nI i + Int32.ofInt 1 = nI (i + 1) from nI_1 _]
      refine ih (i + 1) _ hq (fx_ul ge (Nat.beq_refl r)) (by omega) (fun j hj => ?_)
      by_cases z : j = i
      · rw [z]; exact gl_s
      · rw [gl_k z]; exact w j (by omega)
set_option maxRecDepth 100000 in
theorem nad_q {f q r m : Nat} {h : xh_H} (m12 : m ≤ 12) (hs : h.1[q]? = some (0, 7)) (hg : xg none h.2.2.2 q 1 = some r) (hr : h.1[r]? = some (4, 64)) (hq : a_rq a_tb h) : xq f xi_X7_needAll xmi_X7_needAll 0 [(0, .ref q), (1, .int (nI m))] [] h (fun v h' => v = none ∧ fx fN (Lr r) h h' ∧ ∀ t, t < 4096 → hv h' r t = decide (t = 2 ^ m - 1)) := by
  refine xq_n 2 [0, 1, 2] [(0, .ref q), (1, .int (nI m)), (2, .int (Int32.ofInt 0))] [] h [] 4 hq rfl trivial (fun hq => ?_)
  exact nad_lp m12 hs hg hr f 0 h hq fx_0 (by omega) (fun j hj => absurd hj (Nat.not_lt_zero j))
def m09 (c k : Nat) : Bool := Nat.beq c 0 && Nat.beq k 9
set_option maxRecDepth 100000 in
set_option maxHeartbeats 4000000 in
theorem mb9d_q {f : Nat} {x s w r : Int32} {h : xh_H} (hq : a_rq a_tb h) (e8 : xg 0 h.2.1 0 8 = s) (e3 : xg 0 h.2.1 35 3 = w) (e1 : xg 0 h.2.1 28 1 = r) (u2 : xg none h.2.2.2 0 2 = some 11) (u3 : xg none h.2.2.2 11 1 = some 12) : xq f xi_X9_members xmi_X9_members 0 [(0, .ref 0), (1, .int x)] [] h (fun v h' => (mbB s w r x = false → h' = h) ∧ (mbB s w r x = true → fx m09 (Lr 12) h h' ∧ ∃ m, x = nI m ∧ m ≤ 12 ∧ ∀ t, t < 4096 → hv h' 12 t = decide (t = 2 ^ m - 1))) := by
  cases c1 : xe_c .gt s 0 with
  | true =>
    refine xq_n 49 [] [] [.int (Int32.ofInt 0)] h [true, true] 11 hq rfl ⟨(show xe_c .gt (xg 0 h.2.1 0 8) 0 = true by rw [show (xg 0 h.2.1 0 8) = s from e8]; exact c1), (by decide), trivial⟩ (fun hq => ?_)
    have hB : mbB s w r x = false := by unfold mbB; (rw [c1]) <;> simp only [Bool.not_true, Bool.not_false, Bool.true_and, Bool.false_and, Bool.and_false, Bool.and_true]
    exact xq_ret rfl rfl rfl ⟨fun _ => rfl, fun z => by rw [hB] at z; cases z⟩
  | false =>
    cases c2 : xe_c .gt w 0 with
    | true =>
      refine xq_n 49 [] [] [.int (Int32.ofInt 0)] h [false, true, true] 15 hq rfl ⟨(show xe_c .gt (xg 0 h.2.1 0 8) 0 = false by rw [show (xg 0 h.2.1 0 8) = s from e8]; exact c1), (show xe_c .gt (xg 0 h.2.1 35 3) 0 = true by rw [show (xg 0 h.2.1 35 3) = w from e3]; exact c2), (by decide), trivial⟩ (fun hq => ?_)
      have hB : mbB s w r x = false := by unfold mbB; (rw [c1, c2]) <;> simp only [Bool.not_true, Bool.not_false, Bool.true_and, Bool.false_and, Bool.and_false, Bool.and_true]
      exact xq_ret rfl rfl rfl ⟨fun _ => rfl, fun z => by rw [hB] at z; cases z⟩
    | false =>
      cases c3 : xe_c .eq r 0 with
      | true =>
        cases c4 : xe_c .lt x (Int32.ofInt 1) with
        | true =>
          refine xq_n 49 [] [] [.int (Int32.ofInt 0)] h [false, false, true, false, true] 21 hq rfl ⟨(show xe_c .gt (xg 0 h.2.1 0 8) 0 = false by rw [show (xg 0 h.2.1 0 8) = s from e8]; exact c1), (show xe_c .gt (xg 0 h.2.1 35 3) 0 = false by rw [show (xg 0 h.2.1 35 3) = w from e3]; exact c2), (show xe_c .eq (xg 0 h.2.1 28 1) 0 = true by rw [show (xg 0 h.2.1 28 1) = r from e1]; exact c3), (by decide), c4, trivial⟩ (fun hq => ?_)
          have hB : mbB s w r x = false := by unfold mbB; (rw [c1, c2, c3, c4]) <;> simp only [Bool.not_true, Bool.not_false, Bool.true_and, Bool.false_and, Bool.and_false, Bool.and_true]
          exact xq_ret rfl rfl rfl ⟨fun _ => rfl, fun z => by rw [hB] at z; cases z⟩
        | false =>
          cases c5 : xe_c .le x 12 with
          | true =>
            refine xq_n 60 [0, 1, 2] [(0, .ref 0), (1, .int x), (2, .int (Int32.ofInt 0))] [.int x, va_rf (xg none (xh_ui h 0 9 x).2.2.2 0 2)] (xh_ui h 0 9 x) [false, false, true, false, false, true] 29 hq rfl ⟨(show xe_c .gt (xg 0 h.2.1 0 8) 0 = false by rw [show (xg 0 h.2.1 0 8) = s from e8]; exact c1), (show xe_c .gt (xg 0 h.2.1 35 3) 0 = false by rw [show (xg 0 h.2.1 35 3) = w from e3]; exact c2), (show xe_c .eq (xg 0 h.2.1 28 1) 0 = true by rw [show (xg 0 h.2.1 28 1) = r from e1]; exact c3), (by decide), c4, c5, trivial⟩ (fun _ => ?_)
            have hq : a_rq a_tb (xh_ui h 0 9 x) := a_rq_ui hq
            have x1 : (Int32.ofInt 1).toInt ≤ x.toInt := a_ce (a_neg_ok c4)
            have x2 : x.toInt ≤ (12 : Int32).toInt := a_ce c5
            have x1 : (1 : Int) ≤ x.toInt := x1
            have x2 : x.toInt ≤ (12 : Int) := x2
            obtain ⟨m, em, m12⟩ : ∃ m, x = nI m ∧ m ≤ 12 := ⟨x.toInt.toNat, en_n (t := 0) (by omega), by omega⟩
            have e : xg none (xh_ui h 0 9 x).2.2.2 0 2 = some 11 := u2
            rw [e]
            have s11 : (xh_ui h 0 9 x).1[11]? = some (0, 7) := hq.2.1 11 _ rfl
            have s12 : (xh_ui h 0 9 x).1[12]? = some (4, 64) := hq.2.1 12 _ rfl
            refine xq_cr (As := [.ref 11, .int x]) (mj := xmi_X7_needAll) (q := []) rfl rfl (fun _ _ => rfl) (xa_cs_ok (d := 0) (pc := 0) (lv := []) (nL := 0) s11 rfl).1 (fun f => by rw [em]; exact nad_q (f := f) m12 s11 (by exact u3) s12 (em ▸ hq)) ?_
            rintro _ h1 ⟨rfl, g1, d1⟩
            have hq := fx_q g1 (em ▸ hq)
            refine xq_n 64 [] [] [.int (Int32.ofInt 1)] h1 [] 3 hq rfl trivial (fun hq => ?_)
            have hB : mbB s w r x = true := by unfold mbB; (rw [c1, c2, c3, c4, c5]) <;> simp only [Bool.not_true, Bool.not_false, Bool.true_and, Bool.false_and, Bool.and_false, Bool.and_true]
            exact xq_ret rfl rfl rfl ⟨fun z => by (rw [hB] at z; cases z), fun _ => ⟨fx_t (fx_ui fx_0 rfl) (fx_w (em ▸ g1) (fun _ _ _ => rfl) (fun _ _ z => z)), m, em, m12, d1⟩⟩
          | false =>
            refine xq_n 49 [] [] [.int (Int32.ofInt 0)] h [false, false, true, false, false, false] 24 hq rfl ⟨(show xe_c .gt (xg 0 h.2.1 0 8) 0 = false by rw [show (xg 0 h.2.1 0 8) = s from e8]; exact c1), (show xe_c .gt (xg 0 h.2.1 35 3) 0 = false by rw [show (xg 0 h.2.1 35 3) = w from e3]; exact c2), (show xe_c .eq (xg 0 h.2.1 28 1) 0 = true by rw [show (xg 0 h.2.1 28 1) = r from e1]; exact c3), (by decide), c4, c5, trivial⟩ (fun hq => ?_)
            have hB : mbB s w r x = false := by unfold mbB; (rw [c1, c2, c3, c4, c5]) <;> simp only [Bool.not_true, Bool.not_false, Bool.true_and, Bool.false_and, Bool.and_false, Bool.and_true]
            exact xq_ret rfl rfl rfl ⟨fun _ => rfl, fun z => by rw [hB] at z; cases z⟩
      | false =>
        refine xq_n 49 [] [] [.int (Int32.ofInt 0)] h [false, false, false, true] 19 hq rfl ⟨(show xe_c .gt (xg 0 h.2.1 0 8) 0 = false by rw [show (xg 0 h.2.1 0 8) = s from e8]; exact c1), (show xe_c .gt (xg 0 h.2.1 35 3) 0 = false by rw [show (xg 0 h.2.1 35 3) = w from e3]; exact c2), (show xe_c .eq (xg 0 h.2.1 28 1) 0 = false by rw [show (xg 0 h.2.1 28 1) = r from e1]; exact c3), (by decide), trivial⟩ (fun hq => ?_)
        have hB : mbB s w r x = false := by unfold mbB; (rw [c1, c2, c3]) <;> simp only [Bool.not_true, Bool.not_false, Bool.true_and, Bool.false_and, Bool.and_false, Bool.and_true]
        exact xq_ret rfl rfl rfl ⟨fun _ => rfl, fun z => by rw [hB] at z; cases z⟩
set_option maxRecDepth 100000 in
set_option maxHeartbeats 4000000 in
theorem ch9_q {f : Nat} {x : Int32} {h : xh_H} (hi : a_inv a_tb h) (hn : 72 ≤ h.1.length) : xq f xi_X9_chance xmi_X9_chance 0 [(0, .ref 0), (1, .int x)] [] h (fun v h' => ∃ h1, Fz h h1 ∧ fx fN (Lr 20) h1 h') := by
  have hq := a_rq_of hi.1 hn
  cases c1 : xe_c .lt x 0 with
  | true =>
    refine xq_n 24 [] [] [.long 18446744073709551615] h [true] 5 hq rfl ⟨c1, trivial⟩ (fun _ => ?_)
    exact xq_ret rfl rfl rfl ⟨h, Fz_0, fx_0⟩
  | false =>
    cases c2 : xe_c .le x 10 with
    | false =>
      refine xq_n 24 [] [] [.long 18446744073709551615] h [false, false] 8 hq rfl ⟨c1, c2, trivial⟩ (fun _ => ?_)
      exact xq_ret rfl rfl rfl ⟨h, Fz_0, fx_0⟩
    | true =>
      refine xq_n 17 [1] [(1, .int x)] [.ref 0] h [false, true] 7 hq rfl ⟨c1, c2, trivial⟩ (fun _ => ?_)
      refine xq_run hq rfl rfl (xq_and (xq_of (d := 5) ⟨_, rfl⟩ (pt_run (d := 0) hi hn)) (xq_fz (by decide +kernel))) ?_
      rintro v h1 ⟨⟨k1, rfl, -⟩, z1⟩
      have hq := a_rq_of k1.1.1 (hk_n k1 hn)
      obtain ⟨q, e, rq⟩ : a_e h1 14 6 (2, 11, 0) := ((k1.1.1 14 (0, 2) (hq.2.1 14 (0, 2) rfl)).2 6 (by decide))
      obtain ⟨g1, r, g2, g3⟩ := law_sh k1.1.1 rq
      refine xq_n 21 [] [] [.int x, .ref 14] h1 [] 3 hq rfl trivial (fun _ => ?_)
      refine xq_run hq rfl rfl (cho_q e g1 g2 g3 hq) ?_
      rintro v h2 ⟨g4, y, rfl⟩
      exact xq_ret rfl rfl rfl ⟨h1, z1, g4⟩
end XME
end
section
section XSI
/-- what leaves the statutes -/
def Fs (n : Nat) (h h' : xh_H) : Prop := h.1.length ≤ h'.1.length ∧ (∀ c k, h.1[c]? = some (0, 7) → xg 0 h'.2.1 c k = xg 0 h.2.1 c k) ∧ (∀ c k, h.1[c]? = some (4, 64) → xg 0 h'.2.2.1 c k = xg 0 h.2.2.1 c k) ∧ (∀ k, k < n → xg none h'.2.2.2 13 k = xg none h.2.2.2 13 k) ∧ (∀ c k, h.1[c]? = some (0, 7) → xg none h'.2.2.2 c k = xg none h.2.2.2 c k) ∧ xg none h'.2.2.2 0 2 = xg none h.2.2.2 0 2
theorem sh7_a : ∀ c, c < 72 → a_sh[c]? = some (0, 7) → c = 11 := by decide +kernel
theorem sh64_a : ∀ c, c < 72 → a_sh[c]? = some (4, 64) → c = 12 := by decide +kernel
theorem a_sh_72 : a_sh.length = 72 := by decide +kernel
theorem sh_of {h : xh_H} {c : Nat} {s : Nat × Nat} (hq : a_rq a_tb h) (hc : c < 72) (e : h.1[c]? = some s) : a_sh[c]? = some s := by
  obtain ⟨s2, e2⟩ : ∃ s2, a_sh[c]? = some s2 := ⟨_, List.getElem?_eq_getElem (by rw [a_sh_72]; exact hc)⟩
  have := hq.2.1 c s2 e2
  rw [e] at this
  rw [e2, this]
theorem sh7 {h : xh_H} {c : Nat} (hq : a_rq a_tb h) (e : h.1[c]? = some (0, 7)) : c = 11 ∨ 72 ≤ c := by
  by_cases hc : c < 72
  · exact Or.inl (sh7_a c hc (sh_of hq hc e))
  · exact Or.inr (by omega)
theorem sh64c {h : xh_H} {c : Nat} (hq : a_rq a_tb h) (e : h.1[c]? = some (4, 64)) : c = 12 ∨ 72 ≤ c := by
  by_cases hc : c < 72
  · exact Or.inl (sh64_a c hc (sh_of hq hc e))
  · exact Or.inr (by omega)
theorem Fs_0 {n : Nat} {h : xh_H} : Fs n h h := ⟨Nat.le_refl _, fun _ _ _ => rfl, fun _ _ _ => rfl, fun _ _ => rfl, fun _ _ _ => rfl, rfl⟩
theorem Fs_z {n : Nat} {h h' : xh_H} (hq : a_rq a_tb h) (z : Fz h h') : Fs n h h' := ⟨by rw [z.1]; exact Nat.le_refl _, z.2.1, fun c k e => z.2.2.1 c k (fun ci y => by rw [e] at y; cases y), fun k _ => z.2.2.2 13 k (by rw [hq.2.1 13 _ rfl]; decide) (by rw [hq.2.1 13 _ rfl]; decide), fun c k e => z.2.2.2 c k (by rw [e]; decide) (by rw [e]; decide), z.2.2.2 0 2 (by rw [hq.2.1 0 _ rfl]; decide) (by rw [hq.2.1 0 _ rfl]; decide)⟩
theorem Fs_f {n : Nat} {S L : Nat → Nat → Bool} {h h' : xh_H} (g : fx S L h h') (e1 : ∀ c k, h.1[c]? = some (0, 7) → S c k = false) (e2 : ∀ c k, h.1[c]? = some (4, 64) → L c k = false) : Fs n h h' := ⟨by rw [g.1]; exact Nat.le_refl _, fun c k e => g.2.2.1 c k (e1 c k e), fun c k e => g.2.2.2 c k (e2 c k e), fun _ _ => by rw [g.2.1], fun _ _ _ => by rw [g.2.1], by rw [g.2.1]⟩
theorem Fs_c {sc : Nat} {h h' : xh_H} (hq : a_rq a_tb h) (c : cst h h' sc) : Fs sc h h' := by
  have hl : ∀ {c : Nat} {s : Nat × Nat}, h.1[c]? = some s → c < h.1.length := fun {c s} e => (List.getElem?_eq_some_iff.mp e).1
  have h72 := hq.1
  exact ⟨c.1, fun x k e => c.2.2.2 x k (sh7 hq e) (hl e), fun x k e => c.2.2.1 x k (hl e), fun k hk' => c.2.1 13 k (by omega) (fun _ => hk'), fun x k e => c.2.1 x k (hl e) (fun z => by rcases sh7 hq e with y | y <;> omega), c.2.1 0 2 (by omega) (fun z => by omega)⟩
theorem hv_e {h h' : xh_H} {r s : Nat} (e : ∀ k, xg 0 h'.2.2.1 r k = xg 0 h.2.2.1 r k) : hv h' r s = hv h r s := by
  unfold hv
  rw [e]
theorem st1_s {n k mem : Nat} {h h' : xh_H} (i : a_inv a_tb h) (F : Fs n h h') (hk : k < n) (e51 : xg 0 h'.2.1 51 k = xg 0 h.2.1 51 k) (e52 : xg 0 h'.2.1 52 k = xg 0 h.2.1 52 k) (e44 : ∀ s, s < 4096 → xg 0 h'.2.1 44 (4096 * k + s) = xg 0 h.2.1 44 (4096 * k + s)) (m12 : mem ≤ 12) (S : st1 h mem k) : st1 h' mem k := by
  have p12 : 2 ^ mem ≤ 4096 := show 2 ^ mem ≤ 2 ^ 12 from Nat.pow_le_pow_right (by decide) m12
  obtain ⟨q, q72, qe, ql, q1, q2, q3, q4, q5, q6⟩ := S
  obtain ⟨hs, hr⟩ := st_sh i q72 qe ql
  exact ⟨q, q72, qe, Nat.lt_of_lt_of_le ql F.1, (F.2.2.2.1 k hk).trans q1, (F.2.2.2.2.1 q 1 hs).trans q2, by rw [F.2.1 q 0 hs, e51]; exact q3, by rw [e51]; exact q4, by rw [e52, e51]; exact q5, fun s hs' => by rw [hv_e (fun k => F.2.2.1 (q + 1) k hr), e44 s (by omega)]; exact q6 s hs'⟩
theorem SI_s {h h' : xh_H} (i : a_inv a_tb h) (hq : a_rq a_tb h) (F : Fs 8 h h') (e8 : xg 0 h'.2.1 0 8 = xg 0 h.2.1 0 8) (e9 : xg 0 h'.2.1 0 9 = xg 0 h.2.1 0 9) (e44 : ∀ k, xg 0 h'.2.1 44 k = xg 0 h.2.1 44 k) (e51 : ∀ k, xg 0 h'.2.1 51 k = xg 0 h.2.1 51 k) (e52 : ∀ k, xg 0 h'.2.1 52 k = xg 0 h.2.1 52 k) (S : SI h) : SI h' := by
  obtain ⟨⟨u1, u2, u3⟩, S⟩ := S
  have s11 := hq.2.1 11 _ rfl
  have s12 := hq.2.1 12 _ rfl
  refine ⟨⟨(F.2.1 11 0 s11).trans u1, F.2.2.2.2.2.trans u2, (F.2.2.2.2.1 11 1 s11).trans u3⟩, fun mem sc x1 m12 x2 sc8 => ?_⟩
  rw [e9] at x1
  rw [e8] at x2
  obtain ⟨a, b⟩ := S mem sc x1 m12 x2 sc8
  exact ⟨fun k hk' => st1_s i F (by omega) (e51 k) (e52 k) (fun s _ => e44 _) m12 (a k hk'), fun s s4 => (hv_e (fun k => F.2.2.1 12 k s12)).trans (b s s4)⟩
/-- a frame of ints that leaves the statutes -/
def siM (md : List (Nat × Nat)) : Bool := !a_mb md 44 0 && (!a_mb md 51 0 && (!a_mb md 52 0 && (!a_mb md 0 8 && !a_mb md 0 9)))
theorem SI_t {md : List (Nat × Nat)} {h h' : xh_H} (i : a_inv a_tb h) (hq : a_rq a_tb h) (F : Fs 8 h h') (f : a_fr md h h') (m : siM md = true) (S : SI h) : SI h' := by
  unfold siM at m
  simp only [Bool.and_eq_true, Bool.not_eq_true'] at m
  obtain ⟨m1, m2, m3, m4, m5⟩ := m
  exact SI_s i hq F (fr_g f rfl m4) (fr_g f rfl m5) (fun k => fr_g (c := 44) (k := k) f rfl m1) (fun k => fr_g (c := 51) (k := k) f rfl m2) (fun k => fr_g (c := 52) (k := k) f rfl m3) S
theorem SI_2 {md1 md2 : List (Nat × Nat)} {h h1 h2 : xh_H} (i : a_inv a_tb h) (l : 72 ≤ h.1.length) (i1 : a_inv a_tb h1) (l1 : 72 ≤ h1.1.length) (z1 : Fz h h1) (z2 : Fz h1 h2) (f1 : a_fr md1 h h1) (f2 : a_fr md2 h1 h2) (m1 : siM md1 = true) (m2 : siM md2 = true) (S : SI h) : SI h2 := SI_t i1 (a_rq_of i1.1 l1) (Fs_z (a_rq_of i1.1 l1) z2) f2 m2 (SI_t i (a_rq_of i.1 l) (Fs_z (a_rq_of i.1 l) z1) f1 m1 S)
/-- .. members: all are needed anew -/
theorem SI_m {h h1 h2 : xh_H} {x s w r : Int32} {md2 : List (Nat × Nat)} (i : a_inv a_tb h) (l : 72 ≤ h.1.length) (i1 : a_inv a_tb h1) (l1 : 72 ≤ h1.1.length) (S : SI h) (q1 : (mbB s w r x = false → h1 = h) ∧ (mbB s w r x = true → fx m09 (Lr 12) h h1 ∧ ∃ m, x = nI m ∧ m ≤ 12 ∧ ∀ t, t < 4096 → hv h1 12 t = decide (t = 2 ^ m - 1))) (d1 : xg 0 h1.2.1 0 9 = cond (mbB s w r x) x (xg 0 h.2.1 0 9)) (e8 : xg 0 h.2.1 0 8 = s) (z2 : Fz h1 h2) (f2 : a_fr md2 h1 h2) (m2 : siM md2 = true) : SI h2 := by
  refine SI_t i1 (a_rq_of i1.1 l1) (Fs_z (a_rq_of i1.1 l1) z2) f2 m2 ?_
  cases hB : mbB s w r x with
  | false => rw [q1.1 hB]; exact S
  | true =>
    obtain ⟨g, m, em, m12, un⟩ := q1.2 hB
    rw [hB] at d1
    have d1 : xg 0 h1.2.1 0 9 = x := d1
    have b8 : s = nI 0 := (by
      unfold mbB at hB
      simp only [Bool.and_eq_true, Bool.not_eq_true'] at hB
      have b0 : ¬ (0 : Int) < s.toInt := fun y => by
        have : xe_c .gt s 0 = true := xgt_t y
        simp only [this] at hB
        exact absurd hB.2 (by simp)
      have b1 := a_flx (c := 0) (k := 8) (lo := 0) (hi := 8) i.1 l rfl rfl (by decide)
      rw [e8] at b1
      exact Int32.toInt_inj.mp (by rw [nI_toInt (by decide)]; omega))
    obtain ⟨⟨u1, u2, u3⟩, -⟩ := S
    refine ⟨⟨(fx_i g rfl).trans u1, by rw [g.2.1]; exact u2, by rw [g.2.1]; exact u3⟩, fun mem sc x1 m12' x2 sc8 => ⟨fun k hk' => ?_, fun t t4 => ?_⟩⟩
    · rw [fx_i g rfl, e8, b8] at x2
      have y := congrArg Int32.toInt x2
      rw [nI_toInt (by decide), nI_toInt (by omega)] at y
      omega
    · rw [d1, em] at x1
      have y := congrArg Int32.toInt x1
      rw [nI_toInt (by omega), nI_toInt (by omega)] at y
      have : m = mem := by omega
      rw [un t t4, this]
theorem bq72 {c : Nat} (h : c = 11 ∨ 72 ≤ c) : ∀ j, j < 72 → j ≠ 11 → Nat.beq c j = false := fun j h1 h2 => by
  rw [Bool.eq_false_iff]
  intro y
  have := Nat.eq_of_beq_eq_true y
  omega
theorem rW3_72 {sc c k : Nat} (h : c = 11 ∨ 72 ≤ c) : rW3 sc c k = false := by
  have e := bq72 h
  unfold rW3 rW2 rU rT rS sA0
  simp only [e 39 (by decide) (by decide), e 41 (by decide) (by decide), e 42 (by decide) (by decide), e 43 (by decide) (by decide), e 44 (by decide) (by decide), e 45 (by decide) (by decide), e 46 (by decide) (by decide), e 47 (by decide) (by decide), e 48 (by decide) (by decide), e 49 (by decide) (by decide), e 51 (by decide) (by decide), e 52 (by decide) (by decide), Bool.false_and, Bool.false_or]
theorem rV_12 {c k : Nat} (h : c = 12 ∨ 72 ≤ c) : rV c k = false := by
  unfold rV gL
  rw [show Nat.beq c 39 = false from by rw [Bool.eq_false_iff]; intro y; have := Nat.eq_of_beq_eq_true y; omega, show Nat.beq c 50 = false from by rw [Bool.eq_false_iff]; intro y; have := Nat.eq_of_beq_eq_true y; omega]
  rfl
theorem rW3_44 {sc k : Nat} (h : k < 4096 * sc) : rW3 sc 44 k = false := by
  show ((false || (false || (Nat.ble (4096 * sc) k || false))) || false) = false
  rw [ble_n h]
  rfl
theorem rW3_51 {sc k : Nat} (h : k ≠ sc) : rW3 sc 51 k = false := by
  show ((false || (false || (false || Nat.beq k sc))) || false) = false
  rw [show Nat.beq k sc = false from by rw [Bool.eq_false_iff]; intro y; exact h (Nat.eq_of_beq_eq_true y)]
  rfl
theorem rW3_52 {sc k : Nat} (h : k ≠ sc) : rW3 sc 52 k = false := by
  show ((false || (false || (false || Nat.beq k sc))) || false) = false
  rw [show Nat.beq k sc = false from by rw [Bool.eq_false_iff]; intro y; exact h (Nat.eq_of_beq_eq_true y)]
  rfl
/-- .. a statute more -/
theorem SI_n {h h1 h2 : xh_H} {T : Nat → Nat} {n mem sc td : Nat} {fd : Int32} {md : List (Nat × Nat)} (i : a_inv a_tb h) (l : 72 ≤ h.1.length) (hp : h.1.length % 2 = 0) (i1 : a_inv a_tb h1) (l1 : 72 ≤ h1.1.length) (S : SI h) (e9 : xg 0 h.2.1 0 9 = nI mem) (m12 : mem ≤ 12) (e8 : xg 0 h.2.1 0 8 = nI sc) (sc8 : sc ≤ 8) (td9 : td ≤ 999) (c1 : cst h h1 sc) (n1 : cnw h h1 T n mem sc fd) (f1 : a_fr md h h1) (g51 : ∀ k, xg 0 h1.2.1 51 k = xg 0 h.2.1 51 k) (g52 : ∀ k, xg 0 h1.2.1 52 k = xg 0 h.2.1 52 k) (g44 : ∀ k, xg 0 h1.2.1 44 k = xg 0 h.2.1 44 k) (d9 : xg 0 h2.2.1 0 9 = nI mem) (d8 : xg 0 h2.2.1 0 8 = xg 0 h1.2.1 0 8) (b8 : xg 0 h1.2.1 0 8 = nI sc ∨ xg 0 h1.2.1 0 8 = nI (sc + 1)) (w : fx (rW3 sc) rV h1 h2) (nw : xg 0 h1.2.1 0 8 = nI (sc + 1) → sc < 8 ∧ ((td : Int) ≤ fd.toInt ∧ fd.toInt ≤ 999) ∧ xg 0 h2.2.1 51 sc = fd ∧ xg 0 h2.2.1 52 sc = nI td ∧ ∀ s y, s < 4096 → (∃ j, Tv T n mem s j 0 0 0 (nmW T (fun _ => (0, 0))) (fun _ => false) y) → xg 0 h2.2.1 44 (4096 * sc + s) = bl y) : SI h2 := by
  have hq := a_rq_of i.1 l
  have hq1 := a_rq_of i1.1 l1
  have F1 : Fs sc h h1 := Fs_c hq c1
  have F2 : ∀ n, Fs n h1 h2 := fun n => Fs_f w (fun c k e => rW3_72 (sh7 hq1 e)) (fun c k e => rV_12 (sh64c hq1 e))
  have s11 := hq.2.1 11 _ rfl
  have s12 := hq.2.1 12 _ rfl
  have t11 := hq1.2.1 11 _ rfl
  have t12 := hq1.2.1 12 _ rfl
  obtain ⟨⟨u1, u2, u3⟩, S⟩ := S
  obtain ⟨a, b⟩ := S mem sc e9 m12 e8 sc8
  have p12 : 2 ^ mem ≤ 4096 := show 2 ^ mem ≤ 2 ^ 12 from Nat.pow_le_pow_right (by decide) m12
  have old : ∀ k, k < sc → st1 h2 mem k := fun k hk' => st1_s i1 (F2 sc) hk' (fx_i w (rW3_51 (by omega))) (fx_i w (rW3_52 (by omega))) (fun s s4 => fx_i w (rW3_44 (by omega))) m12 (st1_s i F1 hk' (g51 k) (g52 k) (fun s _ => g44 _) m12 (a k hk'))
  refine ⟨⟨((F2 0).2.1 11 0 t11).trans ((F1.2.1 11 0 s11).trans u1), (F2 0).2.2.2.2.2.trans (F1.2.2.2.2.2.trans u2), ((F2 0).2.2.2.2.1 11 1 t11).trans ((F1.2.2.2.2.1 11 1 s11).trans u3)⟩, fun mem' sc' x1 m12' x2 sc8' => ?_⟩
  have em : mem = mem' := by
    rw [d9] at x1
    have y := congrArg Int32.toInt x1
    rw [nI_toInt (by omega), nI_toInt (by omega)] at y
    omega
  subst em
  refine ⟨fun k hk' => ?_, fun t t4 => (hv_e (fun k => (F2 0).2.2.1 12 k t12)).trans ((hv_e (fun k => F1.2.2.1 12 k s12)).trans (b t t4))⟩
  by_cases ks : k < sc
  · exact old k ks
  · rw [d8] at x2
    rcases b8 with y | y
    · rw [y] at x2
      have y := congrArg Int32.toInt x2
      rw [nI_toInt (by omega), nI_toInt (by omega)] at y
      omega
    · obtain ⟨v1, v2, v3, v4, v5⟩ := nw y
      obtain ⟨w1, w2, w3, w4, w5⟩ := n1 y
      rw [y] at x2
      have y2 := congrArg Int32.toInt x2
      rw [nI_toInt (by omega), nI_toInt (by omega)] at y2
      have ek : k = sc := by omega
      subst ek
      have sN := st_sh i1 (q := h.1.length) (by omega) hp w1
      refine ⟨h.1.length, l, hp, Nat.lt_of_lt_of_le w1 (F2 0).1, by rw [w.2.1]; exact w2, by rw [w.2.1]; exact w3, by rw [(F2 0).2.1 _ 0 sN.1, v3]; exact w4, by rw [v3]; omega, by rw [v4, v3, nI_toInt (by omega)]; exact v2, fun s hs => ?_⟩
      obtain ⟨z, j, z1, z2⟩ := w5 s (by omega)
      rw [hv_e (fun k => (F2 0).2.2.1 (h.1.length + 1) k sN.2), z1, decide_eq_true hs, Bool.true_and]
      exact (v5 s z (by omega) ⟨j, z2⟩).symm
end XSI
end
section
section XUF
theorem iF_w {FR : Nat → Int32} {ok : Nat → Bool} {d : Int32} : ∀ {n : Nat}, (∀ k, k < n → xe_c .gt (FR k) d = false → ok k = true) → iF FR ok d n = iF FR (fun _ => true) d n := by
  intro n
  induction n with
  | zero => intro _; rfl
  | succ n ih =>
    intro e
    have e1 := ih (fun k hk' => e k (by omega))
    have e2 := e n (by omega)
    unfold iF
    rw [e1]
    cases c : xe_c .gt (FR n) d with
    | true => simp only [Bool.not_true, Bool.and_false, Bool.false_and]
    | false => rw [e2 c]
/-- the first vote that doesn't fit -/
def ufG (D S P : Nat → Int32) (cv : Int32 → Nat → Bool) (t : Int32) : Nat → Nat → Int32
  | 0, _ => Int32.ofInt (-1)
  | n + 1, i => cond (xe_c .gt (D i) t) (ufG D S P cv t n (i + 1)) (cond (xe_c .eq (bl (cv (D i) (S i).toInt.toNat)) (P i)) (ufG D S P cv t n (i + 1)) (nI i))
set_option maxRecDepth 100000 in
set_option maxHeartbeats 4000000 in
theorem uf9_lp {vc mem sc : Nat} {t : Int32} {D S P : Nat → Int32} {h : xh_H} (hi : a_inv a_tb h) (e9 : xg 0 h.2.1 0 9 = nI mem) (m12 : mem ≤ 12) (e8 : xg 0 h.2.1 0 8 = nI sc) (sc8 : sc ≤ 8) (si : SI h) (vc6 : vc ≤ 60) (e35 : xg 0 h.2.1 35 3 = nI vc) (hA : ∀ k, k < vc → xg 0 h.2.1 36 k = S k ∧ xg 0 h.2.1 37 k = D k ∧ xg 0 h.2.1 38 k = P k) (hS : ∀ k, k < vc → ∃ s, S k = nI s ∧ s < 2 ^ mem) (hq : a_rq a_tb h) : ∀ (f i : Nat), i ≤ vc → xq f xi_X9_unfit xmi_X9_unfit 2 [(0, .ref 0), (1, .int t), (2, .int (nI i))] [] h (fun v h' => v = some (.int (ufG D S P (cvB (fun k => xg 0 h.2.1 51 k) (fun k => xg 0 h.2.1 44 k) mem sc) t (vc - i) i))) := by
  obtain ⟨⟨u1, u2, u3⟩, si⟩ := si
  obtain ⟨SS, un⟩ := si mem sc e9 m12 e8 sc8
  have p12 : 2 ^ mem ≤ 4096 := show 2 ^ mem ≤ 2 ^ 12 from Nat.pow_le_pow_right (by decide) m12
  intro f
  induction f with
  | zero => intros; exact xq_0
  | succ f ih =>
    intro i il
    by_cases e : i = vc
    · refine xq_m 66 [] [] [.int (Int32.ofInt (-1))] h [true] 7 hq rfl ⟨(show xe_c .ge (nI i) (xg 0 h.2.1 35 3) = true by rw [e35, e]; exact decide_eq_true (Int32.le_refl _)), trivial⟩ (fun _ => ?_)
      rw [e, Nat.sub_self]
      exact xq_ret rfl rfl rfl rfl
    · have il : i < vc := by omega
      obtain ⟨a1, a2, a3⟩ := hA i il
      have g0 : xe_c .ge (nI i) (xg 0 h.2.1 35 3) = false := by rw [e35]; exact nge_f (by omega) (by omega) il
      have ek : (nI i).toNatClampNeg = i := nI_clamp (by omega)
      have nx : nI i + Int32.ofInt 1 = nI (i + 1) := nI_1 i
      rw [show vc - i = (vc - (i + 1)) + 1 by omega]
      unfold ufG
      cases c1 : xe_c .gt (D i) t with
      | true =>
        refine xq_m 2 [0, 1, 2] [(0, .ref 0), (1, .int t), (2, .int ((nI i) + Int32.ofInt 1))] [] h [false, true] 18 hq rfl ⟨g0, (show xe_c .gt (xg 0 h.2.1 37 (nI i).toNatClampNeg) t = true by rw [ek, a2]; exact c1), trivial⟩ (fun _ => ?_)
        rw [nx]
        exact ih (i + 1) il
      | false =>
        obtain ⟨s, es, hs⟩ := hS i il
        have sn : (S i).toInt.toNat = s := by rw [es, nI_toInt (by omega)]; omega
        refine xq_m 30 [0, 1, 2] [(0, .ref 0), (1, .int t), (2, .int (nI i))] [.int (xg 0 h.2.1 37 (nI i).toNatClampNeg), .ref 0] h [false, false] 18 hq rfl ⟨g0, (show xe_c .gt (xg 0 h.2.1 37 (nI i).toNatClampNeg) t = false by rw [ek, a2]; exact c1), trivial⟩ (fun _ => ?_)
        rw [ek, a2]
        refine xq_run hq rfl rfl (if9_q hi e8 sc8 u1 u2 SS hq) ?_
        rintro v h1 ⟨rfl, Q, rfl, fd⟩
        obtain ⟨r, g1, g2, g3⟩ := hv_cv hi m12 SS un u3 hq hs fd
        refine xq_n 42 [0, 1, 2] [(0, .ref 0), (1, .int t), (2, .int (nI i))] [.int (xg 0 h.2.1 36 (nI i).toNatClampNeg), .ref Q] h [] 7 hq rfl trivial (fun _ => ?_)
        rw [ek, a1, es]
        refine xq_cr (As := [.ref Q, .int (nI s)]) (mj := xmi_X7_holds) (q := []) rfl rfl (fun _ _ => rfl) (xa_cs_ok (d := 0) (pc := 0) (lv := []) (nL := 0) fd.1 rfl).1 (fun f => xq_of (d := 0) ⟨_, rfl⟩ (ho_run hq fd.1 g1 g2 (by omega))) ?_
        rintro v h1 ⟨rfl, rfl⟩
        rw [g3, ← es, sn]
        cases c2 : xe_c .eq (bl (cvB (fun k => xg 0 h.2.1 51 k) (fun k => xg 0 h.2.1 44 k) mem sc (D i) s)) (P i) with
        | true =>
          refine xq_n 2 [0, 1, 2] [(0, .ref 0), (1, .int t), (2, .int ((nI i) + Int32.ofInt 1))] [] h [true] 10 hq rfl ⟨(show xe_c .eq (bl (cvB (fun k => xg 0 h.2.1 51 k) (fun k => xg 0 h.2.1 44 k) mem sc (D i) s)) (xg 0 h.2.1 38 (nI i).toNatClampNeg) = true by rw [ek, a3]; exact c2), trivial⟩ (fun _ => ?_)
          rw [nx]
          exact ih (i + 1) il
        | false =>
          refine xq_n 58 [] [] [.int (nI i)] h [false] 9 hq rfl ⟨(show xe_c .eq (bl (cvB (fun k => xg 0 h.2.1 51 k) (fun k => xg 0 h.2.1 44 k) mem sc (D i) s)) (xg 0 h.2.1 38 (nI i).toNatClampNeg) = false by rw [ek, a3]; exact c2), trivial⟩ (fun _ => ?_)
          exact xq_ret rfl rfl rfl rfl
set_option maxRecDepth 100000 in
theorem uf9_q {f vc mem sc : Nat} {t : Int32} {D S P : Nat → Int32} {h : xh_H} (hi : a_inv a_tb h) (e9 : xg 0 h.2.1 0 9 = nI mem) (m12 : mem ≤ 12) (e8 : xg 0 h.2.1 0 8 = nI sc) (sc8 : sc ≤ 8) (si : SI h) (vc6 : vc ≤ 60) (e35 : xg 0 h.2.1 35 3 = nI vc) (hA : ∀ k, k < vc → xg 0 h.2.1 36 k = S k ∧ xg 0 h.2.1 37 k = D k ∧ xg 0 h.2.1 38 k = P k) (hS : ∀ k, k < vc → ∃ s, S k = nI s ∧ s < 2 ^ mem) (hq : a_rq a_tb h) : xq f xi_X9_unfit xmi_X9_unfit 0 [(0, .ref 0), (1, .int t)] [] h (fun v h' => v = some (.int (ufG D S P (cvB (fun k => xg 0 h.2.1 51 k) (fun k => xg 0 h.2.1 44 k) mem sc) t vc 0))) := by
  refine xq_n 2 [0, 1, 2] [(0, .ref 0), (1, .int t), (2, .int (Int32.ofInt 0))] [] h [] 4 hq rfl trivial (fun _ => ?_)
  exact uf9_lp hi e9 m12 e8 sc8 si vc6 e35 hA hS hq f 0 (Nat.zero_le _)
set_option maxRecDepth 100000 in
set_option maxHeartbeats 4000000 in
theorem uf10_lp {vc mem sc : Nat} {t : Int32} {D S P FR TD RW : Nat → Int32} {h : xh_H} (e4 : xg 0 h.2.1 39 4 = nI mem) (m12 : mem ≤ 12) (e33 : xg 0 h.2.1 39 33 = nI sc) (sc8 : sc ≤ 8) (hF : ∀ k, k < sc → xg 0 h.2.1 51 k = FR k) (hT : ∀ k, k < sc → xg 0 h.2.1 52 k = TD k ∧ (TD k).toInt ≤ (FR k).toInt) (hR : ∀ k s, k < sc → s < 2 ^ mem → ∃ b : Bool, RW (4096 * k + s) = bl b ∧ xg 0 h.2.1 44 (4096 * k + s) = bl b) (vc6 : vc ≤ 60) (e63 : xg 0 h.2.1 39 63 = nI vc) (hA : ∀ k, k < vc → xg 0 h.2.1 68 k = S k ∧ xg 0 h.2.1 69 k = D k ∧ xg 0 h.2.1 70 k = P k) (hS : ∀ k, k < vc → ∃ s, S k = nI s ∧ s < 2 ^ mem) (hq : a_rq a_tb h) : ∀ (f i : Nat), i ≤ vc → xq f xi_X10_unfit xmi_X10_unfit 7 [(0, .ref 39), (1, .int t), (2, .int (nI i))] [] h (fun v h' => v = some (.int (ufG D S P (cvB FR RW mem sc) t (vc - i) i))) := by
  have p12 : 2 ^ mem ≤ 4096 := show 2 ^ mem ≤ 2 ^ 12 from Nat.pow_le_pow_right (by decide) m12
  intro f
  induction f with
  | zero => intros; exact xq_0
  | succ f ih =>
    intro i il
    by_cases e : i = vc
    · refine xq_m 64 [] [] [.int (Int32.ofInt (-1))] h [true] 6 hq rfl ⟨(show xe_c .ge (nI i) (xg 0 h.2.1 39 63) = true by rw [e63, e]; exact decide_eq_true (Int32.le_refl _)), trivial⟩ (fun _ => ?_)
      rw [e, Nat.sub_self]
      exact xq_ret rfl rfl rfl rfl
    · have il : i < vc := by omega
      obtain ⟨a1, a2, a3⟩ := hA i il
      have g0 : xe_c .ge (nI i) (xg 0 h.2.1 39 63) = false := by rw [e63]; exact nge_f (by omega) (by omega) il
      have ek : (nI i).toNatClampNeg = i := nI_clamp (by omega)
      have nx : nI i + Int32.ofInt 1 = nI (i + 1) := nI_1 i
      rw [show vc - i = (vc - (i + 1)) + 1 by omega]
      unfold ufG
      cases c1 : xe_c .gt (D i) t with
      | true =>
        refine xq_m 7 [0, 1, 2] [(0, .ref 39), (1, .int t), (2, .int ((nI i) + Int32.ofInt 1))] [] h [false, true] 15 hq rfl ⟨g0, (show xe_c .gt (xg 0 h.2.1 69 (nI i).toNatClampNeg) t = true by rw [ek, a2]; exact c1), trivial⟩ (fun _ => ?_)
        rw [nx]
        exact ih (i + 1) il
      | false =>
        obtain ⟨s, es, hs⟩ := hS i il
        have sn : (S i).toInt.toNat = s := by rw [es, nI_toInt (by omega)]; omega
        refine xq_m 34 [0, 1, 2] [(0, .ref 39), (1, .int t), (2, .int (nI i))] [.int t, .int (xg 0 h.2.1 69 (nI i).toNatClampNeg), .ref 39, .ref 39] h [false, false] 19 hq rfl ⟨g0, (show xe_c .gt (xg 0 h.2.1 69 (nI i).toNatClampNeg) t = false by rw [ek, a2]; exact c1), trivial⟩ (fun _ => ?_)
        rw [ek, a2]
        refine xq_run hq rfl rfl (if10_q (d := D i) (t := t) (TD := TD) e33 sc8 hF (fun k hk' => (hT k hk').1) hq) ?_
        rintro v h1 ⟨rfl, rfl⟩
        rw [iF_w (ok := fun k => !xe_c .gt (TD k) t) (fun k hk' z => by
          have b1 : (FR k).toInt ≤ (D i).toInt := a_ce (a_neg_ok z)
          have b2 : (D i).toInt ≤ t.toInt := a_ce (a_neg_ok c1)
          have b3 := (hT k hk').2
          rw [show xe_c .gt (TD k) t = false from xgt_f (by omega)]
          rfl)]
        refine xq_n 43 [0, 1, 2] [(0, .ref 39), (1, .int t), (2, .int (nI i))] [.int (xg 0 h.2.1 68 (nI i).toNatClampNeg), .int (oN (iF FR (fun _ => true) (D i) sc)), .ref 39] h [] 6 hq rfl trivial (fun _ => ?_)
        rw [ek, a1, es]
        refine xq_run hq rfl rfl (cb10_q (RW := RW) e4 m12 (by omega) (fun k e => ⟨by have := iF_lt e; omega, hR k s (iF_lt e) hs⟩) hq) ?_
        rintro v h1 ⟨rfl, rfl⟩
        rw [← es, sn, show cvo RW mem s (iF FR (fun _ => true) (D i) sc) = cvB FR RW mem sc (D i) s from rfl]
        cases c2 : xe_c .eq (bl (cvB FR RW mem sc (D i) s)) (P i) with
        | true =>
          refine xq_n 7 [0, 1, 2] [(0, .ref 39), (1, .int t), (2, .int ((nI i) + Int32.ofInt 1))] [] h [true] 9 hq rfl ⟨(show xe_c .eq (bl (cvB FR RW mem sc (D i) s)) (xg 0 h.2.1 70 (nI i).toNatClampNeg) = true by rw [ek, a3]; exact c2), trivial⟩ (fun _ => ?_)
          rw [nx]
          exact ih (i + 1) il
        | false =>
          refine xq_n 56 [] [] [.int (nI i)] h [false] 8 hq rfl ⟨(show xe_c .eq (bl (cvB FR RW mem sc (D i) s)) (xg 0 h.2.1 70 (nI i).toNatClampNeg) = false by rw [ek, a3]; exact c2), trivial⟩ (fun _ => ?_)
          exact xq_ret rfl rfl rfl rfl
set_option maxRecDepth 100000 in
theorem uf10_q {f vc mem sc : Nat} {t : Int32} {D S P FR TD RW : Nat → Int32} {h : xh_H} (e4 : xg 0 h.2.1 39 4 = nI mem) (m12 : mem ≤ 12) (e33 : xg 0 h.2.1 39 33 = nI sc) (sc8 : sc ≤ 8) (hF : ∀ k, k < sc → xg 0 h.2.1 51 k = FR k) (hT : ∀ k, k < sc → xg 0 h.2.1 52 k = TD k ∧ (TD k).toInt ≤ (FR k).toInt) (hR : ∀ k s, k < sc → s < 2 ^ mem → ∃ b : Bool, RW (4096 * k + s) = bl b ∧ xg 0 h.2.1 44 (4096 * k + s) = bl b) (vc6 : vc ≤ 60) (e63 : xg 0 h.2.1 39 63 = nI vc) (hA : ∀ k, k < vc → xg 0 h.2.1 68 k = S k ∧ xg 0 h.2.1 69 k = D k ∧ xg 0 h.2.1 70 k = P k) (hS : ∀ k, k < vc → ∃ s, S k = nI s ∧ s < 2 ^ mem) (hq : a_rq a_tb h) : xq f xi_X10_unfit xmi_X10_unfit 0 [(0, .ref 39), (1, .int t)] [] h (fun v h' => v = some (.int (ufG D S P (cvB FR RW mem sc) t vc 0))) := by
  refine xq_n 7 [0, 1, 2] [(0, .ref 39), (1, .int t), (2, .int (Int32.ofInt 0))] [] (xh_ui h 39 0 (Int32.ofInt 0)) [] 7 hq rfl trivial (fun _ => ?_)
  exact uf10_lp ((gx_k (by decide)).trans e4) m12 ((gx_k (by decide)).trans e33) sc8 (fun k hk' => (gx_o (by decide)).trans (hF k hk')) (fun k hk' => ⟨(gx_o (by decide)).trans (hT k hk').1, (hT k hk').2⟩) (fun k s h1 h2 => by obtain ⟨b, b1, b2⟩ := hR k s h1 h2; exact ⟨b, b1, (gx_o (by decide)).trans b2⟩) vc6 ((gx_k (by decide)).trans e63) (fun k hk' => ⟨(gx_o (by decide)).trans (hA k hk').1, (gx_o (by decide)).trans (hA k hk').2.1, (gx_o (by decide)).trans (hA k hk').2.2⟩) hS (a_rq_ui hq) f 0 (Nat.zero_le _)
end XUF
end
section
section XVS
/-- the votes' sets are sets of the members -/
def VZ (h : xh_H) : Prop := ∀ mem vc, xg 0 h.2.1 0 9 = nI mem → mem ≤ 12 → xg 0 h.2.1 35 3 = nI vc → vc ≤ 60 → ∀ k, k < vc → ∃ s, xg 0 h.2.1 36 k = nI s ∧ s < 2 ^ mem
theorem VZ_s {h h' : xh_H} (e9 : xg 0 h'.2.1 0 9 = xg 0 h.2.1 0 9) (e35 : xg 0 h'.2.1 35 3 = xg 0 h.2.1 35 3) (e36 : ∀ k, xg 0 h'.2.1 36 k = xg 0 h.2.1 36 k) (S : VZ h) : VZ h' := fun mem vc x1 x2 x3 x4 k hk' => by
  rw [e36]
  exact S mem vc (e9.symm.trans x1) x2 (e35.symm.trans x3) x4 k hk'
def vsM (md : List (Nat × Nat)) : Bool := !a_mb md 0 9 && (!a_mb md 35 3 && !a_mb md 36 0)
theorem VZ_t {md : List (Nat × Nat)} {h h' : xh_H} (f : a_fr md h h') (m : vsM md = true) (S : VZ h) : VZ h' := by
  unfold vsM at m
  simp only [Bool.and_eq_true, Bool.not_eq_true'] at m
  exact VZ_s (fr_g f rfl m.1) (fr_g f rfl m.2.1) (fun k => fr_g (c := 36) (k := k) f rfl m.2.2) S
theorem VZ_2 {md1 md2 : List (Nat × Nat)} {h h1 h2 : xh_H} (f1 : a_fr md1 h h1) (f2 : a_fr md2 h1 h2) (m1 : vsM md1 = true) (m2 : vsM md2 = true) (S : VZ h) : VZ h2 := VZ_t f2 m2 (VZ_t f1 m1 S)
theorem VZ_m {h h1 h2 : xh_H} {x s w r : Int32} {md1 md2 : List (Nat × Nat)} (S : VZ h) (d1 : xg 0 h1.2.1 0 9 = cond (mbB s w r x) x (xg 0 h.2.1 0 9)) (e3 : xg 0 h.2.1 35 3 = w) (f1 : a_fr md1 h h1) (m3 : a_mb md1 35 3 = false) (m4 : a_mb md1 36 0 = false) (f2 : a_fr md2 h1 h2) (m2 : vsM md2 = true) : VZ h2 := by
  refine VZ_t f2 m2 ?_
  have e35 : xg 0 h1.2.1 35 3 = xg 0 h.2.1 35 3 := fr_g f1 rfl m3
  cases hB : mbB s w r x with
  | false =>
    rw [hB] at d1
    exact VZ_s d1 e35 (fun k => fr_g (c := 36) (k := k) f1 rfl m4) S
  | true =>
    intro mem vc x1 x2 x3 x4 k hk'
    exfalso
    rw [e35, e3] at x3
    unfold mbB at hB
    simp only [Bool.and_eq_true, Bool.not_eq_true'] at hB
    have b0 : w.toInt ≤ (0 : Int) := a_ce (a_neg_ok hB.2.2.1)
    rw [x3, nI_toInt (by omega)] at b0
    omega
theorem VZ_v {h h1 h2 : xh_H} {x : Int32} {mem vc : Nat} {md1 md2 : List (Nat × Nat)} (S : VZ h) (m12 : mem ≤ 12) (e9 : xg 0 h.2.1 0 9 = nI mem) (e35 : xg 0 h.2.1 35 3 = nI vc) (v6 : vc ≤ 60) (d1 : xg 0 h1.2.1 35 3 = nI (cond ((!xe_c .lt x 0 && !xe_c .ge x (Int32.ofInt 1 <<< (nI mem &&& 31))) && decide (vc < 60)) (vc + 1) vc)) (a1 : ∀ k, xg 0 h1.2.1 36 k = cond (((!xe_c .lt x 0 && !xe_c .ge x (Int32.ofInt 1 <<< (nI mem &&& 31))) && decide (vc < 60)) && Nat.beq k vc) x (xg 0 h.2.1 36 k)) (f1 : a_fr md1 h h1) (m3 : a_mb md1 0 9 = false) (f2 : a_fr md2 h1 h2) (m2 : vsM md2 = true) : VZ h2 := by
  refine VZ_t f2 m2 ?_
  intro mem' vc' x1 x2 x3 x4 k hk'
  rw [fr_g f1 rfl m3, e9] at x1
  have em : mem = mem' := by
    have y := congrArg Int32.toInt x1
    rw [nI_toInt (by omega), nI_toInt (by omega)] at y
    omega
  subst em
  rw [a1 k]
  cases hB : ((!xe_c .lt x 0 && !xe_c .ge x (Int32.ofInt 1 <<< (nI mem &&& 31))) && decide (vc < 60)) with
  | false =>
    rw [hB] at d1
    rw [d1] at x3
    have y := congrArg Int32.toInt x3
    have y : (nI vc).toInt = (nI vc').toInt := y
    rw [nI_toInt (by omega), nI_toInt (by omega)] at y
    exact S mem vc e9 x2 e35 v6 k (by omega)
  | true =>
    rw [hB] at d1
    rw [d1] at x3
    have y := congrArg Int32.toInt x3
    have y : (nI (vc + 1)).toInt = (nI vc').toInt := y
    rw [nI_toInt (by omega), nI_toInt (by omega)] at y
    rw [Bool.true_and]
    cases hk : Nat.beq k vc with
    | true =>
      obtain ⟨s, e1, e2, -⟩ := inS_n m12 (Bool.and_eq_true _ _ ▸ hB).1
      exact ⟨s, e1, e2⟩
    | false =>
      have : k ≠ vc := fun z => by rw [z, Nat.beq_refl] at hk; cases hk
      exact S mem vc e9 x2 e35 v6 k (by omega)
end XVS
end
