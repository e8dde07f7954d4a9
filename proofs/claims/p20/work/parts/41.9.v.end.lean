section XDE
variable {T : Nat → Nat} {n mem nn : Nat} {NW : Nat → Nat}
def E6 (t c k : Nat) : Bool := Nat.beq c 46 && Nat.ble (4096 * t) k
def E2 (t c k : Nat) : Bool := Nat.beq c 42 && Nat.ble (4096 * t) k
def E1 (t c k : Nat) : Bool := (Nat.beq c 41 || Nat.beq c 42) && Nat.ble (4096 * t) k
def E5 (c _k : Nat) : Bool := Nat.beq c 45
theorem ble_t {t k : Nat} (h : 4096 * t ≤ k) : Nat.ble (4096 * t) k = true := Nat.ble_eq.mpr h
theorem ble_n {t k : Nat} (h : k < 4096 * t) : Nat.ble (4096 * t) k = false := by rw [Bool.eq_false_iff]; intro z; have := Nat.ble_eq.mp z; omega
theorem E6t {t k : Nat} (h : 4096 * t ≤ k) : E6 t 46 k = true := ble_t h
theorem E2t {t k : Nat} (h : 4096 * t ≤ k) : E2 t 42 k = true := ble_t h
theorem E1t {t k : Nat} (h : 4096 * t ≤ k) : E1 t 41 k = true := ble_t h
theorem E1u {t k : Nat} (h : 4096 * t ≤ k) : E1 t 42 k = true := ble_t h
section
variable {h h' : xh_H} {sv t : Nat} {fr : List Nat} {r : List vF}
theorem dE6 (s4 : sv < 4096) (ht : fr.length = t) (d : dfr h sv fr r) (g : fx (E6 t) fN h h') : dfr h' sv fr r := dfr_5 s4 (fun _ _ => fx_i g rfl) (fun _ _ => fx_i g rfl) (fun _ hk' => fx_i g (ble_n (by omega))) (fun _ _ => fx_i g rfl) (fun _ _ => fx_i g rfl) d
theorem dE2 (s4 : sv < 4096) (ht : fr.length = t) (d : dfr h sv fr r) (g : fx (E2 t) fN h h') : dfr h' sv fr r := dfr_5 s4 (fun _ _ => fx_i g rfl) (fun _ hk' => fx_i g (ble_n (by omega))) (fun _ _ => fx_i g rfl) (fun _ _ => fx_i g rfl) (fun _ _ => fx_i g rfl) d
theorem dE1 (s4 : sv < 4096) (ht : fr.length = t) (d : dfr h sv fr r) (g : fx (E1 t) fN h h') : dfr h' sv fr r := dfr_5 s4 (fun _ hk' => fx_i g (ble_n (by omega))) (fun _ hk' => fx_i g (ble_n (by omega))) (fun _ _ => fx_i g rfl) (fun _ _ => fx_i g rfl) (fun _ _ => fx_i g rfl) d
theorem dE5 (s4 : sv < 4096) (d : dfr h sv fr r) (g : fx E5 fN h h') : dfr h' sv fr r := dfr_5 s4 (fun _ _ => fx_i g rfl) (fun _ _ => fx_i g rfl) (fun _ _ => fx_i g rfl) (fun _ _ => fx_i g rfl) (fun _ _ => fx_i g rfl) d
theorem dfr_48t {x : Int32} (s4 : sv < 4096) (ht : fr.length = t) (d : dfr h sv fr r) : dfr (xh_ui h 48 t x) sv fr r := dfr_5 s4 (fun _ _ => gx_o (by decide)) (fun _ _ => gx_o (by decide)) (fun _ _ => gx_o (by decide)) (fun _ hk' => gx_k (by omega)) (fun _ _ => gx_o (by decide)) d
end
section
variable {a b : Bool} {x y w : Int32}
theorem b_n1 (h : xe_c .eq (bl a) 0 = true) : x = (if a = true then x + w else x) := by cases a with
  | false => rfl
  | true => exact absurd h (by decide)
theorem b_n2 (h : xe_c .eq (bl a) 0 = false) : x + w = (if a = true then x + w else x) := by cases a with
  | false => exact absurd h (by decide)
  | true => rfl
theorem xge_n {a b : Int32} : xe_c .ge a b = !(xe_c .lt a b) := by
  show decide (b ≤ a) = !decide (a < b)
  have h : (b ≤ a) ↔ ¬ (a < b) := Int32.not_lt.symm
  by_cases z : a < b
  · rw [decide_eq_true z, decide_eq_false (fun y => h.mp y z)]; rfl
  · rw [decide_eq_false z, decide_eq_true (h.mpr z)]; rfl
theorem b_g1 (h : xe_c .lt x y = true) : Int32.ofInt 0 = bl (xe_c .ge x y) := by rw [show xe_c .ge x y = !(xe_c .lt x y) from xge_n, h]; rfl
theorem b_g2 (h : xe_c .lt x y = false) : Int32.ofInt 1 = bl (xe_c .ge x y) := by rw [show xe_c .ge x y = !(xe_c .lt x y) from xge_n, h]; rfl
theorem b_a1 (h : xe_c .eq (bl a) 0 = true) : Int32.ofInt 0 = bl (a && b) := by cases a with
  | false => rfl
  | true => exact absurd h (by decide)
theorem b_a2 (h : xe_c .eq (bl a) 0 = false) (h' : xe_c .eq (bl b) 0 = true) : Int32.ofInt 0 = bl (a && b) := by cases b with
  | false => cases a <;> rfl
  | true => exact absurd h' (by decide)
theorem b_a3 (h : xe_c .eq (bl a) 0 = false) (h' : xe_c .eq (bl b) 0 = false) : Int32.ofInt 1 = bl (a && b) := by cases a with
  | false => exact absurd h (by decide)
  | true => cases b with
    | false => exact absurd h' (by decide)
    | true => rfl
theorem b_o1 (h : xe_c .ne (bl a) 0 = true) : Int32.ofInt 1 = bl (a || b) := by cases a with
  | false => exact absurd h (by decide)
  | true => rfl
theorem b_o2 (h : xe_c .ne (bl a) 0 = false) (h' : xe_c .eq (bl b) 0 = true) : Int32.ofInt 0 = bl (a || b) := by cases a with
  | true => exact absurd h (by decide)
  | false => cases b with
    | true => exact absurd h' (by decide)
    | false => rfl
theorem b_o3 (h : xe_c .ne (bl a) 0 = false) (h' : xe_c .eq (bl b) 0 = false) : Int32.ofInt 1 = bl (a || b) := by cases a with
  | true => exact absurd h (by decide)
  | false => cases b with
    | true => rfl
    | false => exact absurd h' (by decide)
end
set_option maxRecDepth 100000 in
set_option maxHeartbeats 4000000 in
theorem eld_24 {p o aw sv t : Nat} {fs : List Nat} {h0 hb : xh_H} {one : Bool} {su w : Int32} {Q : Option Value → xh_H → Prop} (s4 : sv < 4096) (et : fs.length - 1 = t) (t12 : t ≤ 12) (b45 : xg 0 hb.2.1 45 sv = bl one) (b48 : xg 0 hb.2.1 48 t = w) (K : ∀ (f : Nat) (x : Int32) (h : xh_H), a_rq a_tb h → GI h0 h T n mem nn NW p o fs aw → fx (E6 t) fN hb h → xg 0 h.2.1 46 (4096 * t + sv) = (if one = true then su + w else su) → xq f xi_X10_end_ xmi_X10_end_ 66 [(0, .ref 39), (1, .int (nI (4096 * t))), (2, .int x)] [] h Q) : ∀ (f i : Nat) (h : xh_H), a_rq a_tb h → GI h0 h T n mem nn NW p o fs aw → fx (E6 t) fN hb h → i ≤ 4096 → xg 0 h.2.1 46 (4096 * t + sv) = (if sv < i then (if one = true then su + w else su) else su) → xq f xi_X10_end_ xmi_X10_end_ 24 [(0, .ref 39), (1, .int (nI (4096 * t))), (2, .int (nI i))] [] h Q := by
  intro f
  induction f with
  | zero => intros; exact xq_0
  | succ f ih =>
    intro i h hq gi ge i6 w46
    have e28 : xg 0 h.2.1 39 28 = nI t := by rw [← et]; exact gi.2.1.2.2.2.2.2.2.2.1
    cases c1 : xe_c .ge (nI i) 4096 with
    | true =>
      have z1 : i ≥ 4096 := nq_get (a := i) (b := 4096) (by omega) (by omega) c1
      refine xq_m 66 [0, 1, 2] [(0, .ref 39), (1, .int (nI (4096 * t))), (2, .int (nI i))] [] h [true] 5 hq rfl ⟨c1, trivial⟩ (fun hq => ?_)
      exact K f _ _ hq gi ge (lp_1 w46 (by omega))
    | false =>
      have z1 : i < 4096 := nq_gef (a := i) (b := 4096) (by omega) (by omega) c1
      cases c2 : xe_c .eq (xg 0 h.2.1 45 i) 0 with
      | true =>
        refine xq_m 24 [0, 1, 2] [(0, .ref 39), (1, .int (nI (4096 * t))), (2, .int ((nI i) + Int32.ofInt 1))] [] h [false, true] 12 hq rfl ⟨c1, (show xe_c .eq (xg 0 h.2.1 45 ((nI i).toNatClampNeg)) 0 = true by rw [show (xg 0 h.2.1 45 ((nI i).toNatClampNeg)) = xg 0 h.2.1 45 i from (by rw [show ((nI i).toNatClampNeg) = i from nI_clamp (by omega)])]; exact c2), trivial⟩ (fun hq => ?_)
        rw [show ((nI i) + Int32.ofInt 1) = nI (i + 1) from nI_1 _]
        exact ih (i + 1) _ hq (GI_f gi (fx_0)) (ge) (by omega) (lp_n w46 (fun e => by have c := c2; rw [e, show xg 0 h.2.1 45 sv = bl one from (fx_i ge rfl).trans b45] at c; exact b_n1 c))
      | false =>
        refine xq_m 24 [0, 1, 2] [(0, .ref 39), (1, .int (nI (4096 * t))), (2, .int ((nI i) + Int32.ofInt 1))] [] (xh_ui h 46 (((nI (4096 * t)) + (nI i)).toNatClampNeg) ((xg 0 h.2.1 46 (((nI (4096 * t)) + (nI i)).toNatClampNeg)) + (xg 0 h.2.1 48 ((xg 0 h.2.1 39 28).toNatClampNeg)))) [false, false] 26 hq rfl ⟨c1, (show xe_c .eq (xg 0 h.2.1 45 ((nI i).toNatClampNeg)) 0 = false by rw [show (xg 0 h.2.1 45 ((nI i).toNatClampNeg)) = xg 0 h.2.1 45 i from (by rw [show ((nI i).toNatClampNeg) = i from nI_clamp (by omega)])]; exact c2), trivial⟩ (fun _ => ?_)
        rw [show (xg 0 h.2.1 46 (((nI (4096 * t)) + (nI i)).toNatClampNeg)) = xg 0 h.2.1 46 (4096 * t + i) from (by rw [show ((nI (4096 * t)) + (nI i)) = nI (4096 * t + i) from nI_add _ _, show ((nI (4096 * t + i)).toNatClampNeg) = (4096 * t + i) from nI_clamp (by omega)])]
        rw [show (xg 0 h.2.1 48 ((xg 0 h.2.1 39 28).toNatClampNeg)) = xg 0 h.2.1 48 t from (by rw [show (xg 0 h.2.1 39 28) = (nI t) from e28, show ((nI t).toNatClampNeg) = t from nI_clamp (by omega)])]
        rw [show ((nI (4096 * t)) + (nI i)) = nI (4096 * t + i) from nI_add _ _]
        rw [show ((nI (4096 * t + i)).toNatClampNeg) = (4096 * t + i) from nI_clamp (by omega)]
        rw [show ((nI i) + Int32.ofInt 1) = nI (i + 1) from nI_1 _]
        have hq : a_rq a_tb (xh_ui h 46 (4096 * t + i) ((xg 0 h.2.1 46 (4096 * t + i)) + (xg 0 h.2.1 48 t))) := a_rq_ui hq
        exact ih (i + 1) _ hq (GI_f gi (fx_ui (fx_0) rfl)) (fx_ui (ge) (E6t (by omega))) (by omega) (lp_w (w46) (fun e => by have c := c2; rw [e, show xg 0 h.2.1 45 sv = bl one from (fx_i ge rfl).trans b45] at c; rw [e, w46, if_neg (by omega), show xg 0 h.2.1 48 t = w from (fx_i ge rfl).trans b48]; exact b_n2 c))
set_option maxRecDepth 100000 in
set_option maxHeartbeats 4000000 in
theorem eld_94 {p o aw sv t : Nat} {fs : List Nat} {h0 hb : xh_H} {one : Bool} {nd S : Int32} {Q : Option Value → xh_H → Prop} (s4 : sv < 4096) (et : fs.length - 1 = t) (t12 : t ≤ 12) (b46 : xg 0 hb.2.1 46 (4096 * t + sv) = S) (b49 : xg 0 hb.2.1 49 t = nd) (K : ∀ (f : Nat) (x : Int32) (h : xh_H), a_rq a_tb h → GI h0 h T n mem nn NW p o fs aw → fx E5 fN hb h → xg 0 h.2.1 45 sv = bl (xe_c .ge S nd) → xq f xi_X10_end_ xmi_X10_end_ 138 [(0, .ref 39), (1, .int (nI (4096 * t))), (2, .int x)] [] h Q) : ∀ (f i : Nat) (h : xh_H), a_rq a_tb h → GI h0 h T n mem nn NW p o fs aw → fx E5 fN hb h → i ≤ 4096 → xg 0 h.2.1 45 sv = (if sv < i then bl (xe_c .ge S nd) else bl one) → xq f xi_X10_end_ xmi_X10_end_ 94 [(0, .ref 39), (1, .int (nI (4096 * t))), (2, .int (nI i))] [] h Q := by
  intro f
  induction f with
  | zero => intros; exact xq_0
  | succ f ih =>
    intro i h hq gi ge i6 w45
    have e28 : xg 0 h.2.1 39 28 = nI t := by rw [← et]; exact gi.2.1.2.2.2.2.2.2.2.1
    cases c1 : xe_c .ge (nI i) 4096 with
    | true =>
      have z1 : i ≥ 4096 := nq_get (a := i) (b := 4096) (by omega) (by omega) c1
      refine xq_m 138 [0, 1, 2] [(0, .ref 39), (1, .int (nI (4096 * t))), (2, .int (nI i))] [] h [true] 5 hq rfl ⟨c1, trivial⟩ (fun hq => ?_)
      exact K f _ _ hq gi ge (lp_1 w45 (by omega))
    | false =>
      have z1 : i < 4096 := nq_gef (a := i) (b := 4096) (by omega) (by omega) c1
      cases c2 : xe_c .lt (xg 0 h.2.1 46 (4096 * t + i)) (xg 0 h.2.1 49 t) with
      | true =>
        refine xq_m 94 [0, 1, 2] [(0, .ref 39), (1, .int (nI (4096 * t))), (2, .int ((nI i) + Int32.ofInt 1))] [] (xh_ui h 45 ((nI i).toNatClampNeg) (vp_nar .boolean (Int32.ofInt 0))) [false, true] 24 hq rfl ⟨c1, (show xe_c .lt (xg 0 h.2.1 46 (((nI (4096 * t)) + (nI i)).toNatClampNeg)) (xg 0 h.2.1 49 ((xg 0 h.2.1 39 28).toNatClampNeg)) = true by rw [show (xg 0 h.2.1 46 (((nI (4096 * t)) + (nI i)).toNatClampNeg)) = xg 0 h.2.1 46 (4096 * t + i) from (by rw [show ((nI (4096 * t)) + (nI i)) = nI (4096 * t + i) from nI_add _ _, show ((nI (4096 * t + i)).toNatClampNeg) = (4096 * t + i) from nI_clamp (by omega)]), show (xg 0 h.2.1 49 ((xg 0 h.2.1 39 28).toNatClampNeg)) = xg 0 h.2.1 49 t from (by rw [show (xg 0 h.2.1 39 28) = (nI t) from e28, show ((nI t).toNatClampNeg) = t from nI_clamp (by omega)])]; exact c2), trivial⟩ (fun _ => ?_)
        rw [show (vp_nar .boolean (Int32.ofInt 0)) = Int32.ofInt 0 from rfl]
        rw [show ((nI i).toNatClampNeg) = i from nI_clamp (by omega)]
        rw [show ((nI i) + Int32.ofInt 1) = nI (i + 1) from nI_1 _]
        have hq : a_rq a_tb (xh_ui h 45 i (Int32.ofInt 0)) := a_rq_ui hq
        exact ih (i + 1) _ hq (GI_f gi (fx_ui (fx_0) rfl)) (fx_ui (ge) rfl) (by omega) (lp_w0 (w45) (fun e => by have c := c2; rw [e, show xg 0 h.2.1 46 (4096 * t + sv) = S from (fx_i ge rfl).trans b46, show xg 0 h.2.1 49 t = nd from (fx_i ge rfl).trans b49] at c; exact b_g1 c))
      | false =>
        refine xq_m 94 [0, 1, 2] [(0, .ref 39), (1, .int (nI (4096 * t))), (2, .int ((nI i) + Int32.ofInt 1))] [] (xh_ui h 45 ((nI i).toNatClampNeg) (vp_nar .boolean (Int32.ofInt 1))) [false, false] 25 hq rfl ⟨c1, (show xe_c .lt (xg 0 h.2.1 46 (((nI (4096 * t)) + (nI i)).toNatClampNeg)) (xg 0 h.2.1 49 ((xg 0 h.2.1 39 28).toNatClampNeg)) = false by rw [show (xg 0 h.2.1 46 (((nI (4096 * t)) + (nI i)).toNatClampNeg)) = xg 0 h.2.1 46 (4096 * t + i) from (by rw [show ((nI (4096 * t)) + (nI i)) = nI (4096 * t + i) from nI_add _ _, show ((nI (4096 * t + i)).toNatClampNeg) = (4096 * t + i) from nI_clamp (by omega)]), show (xg 0 h.2.1 49 ((xg 0 h.2.1 39 28).toNatClampNeg)) = xg 0 h.2.1 49 t from (by rw [show (xg 0 h.2.1 39 28) = (nI t) from e28, show ((nI t).toNatClampNeg) = t from nI_clamp (by omega)])]; exact c2), trivial⟩ (fun _ => ?_)
        rw [show (vp_nar .boolean (Int32.ofInt 1)) = Int32.ofInt 1 from rfl]
        rw [show ((nI i).toNatClampNeg) = i from nI_clamp (by omega)]
        rw [show ((nI i) + Int32.ofInt 1) = nI (i + 1) from nI_1 _]
        have hq : a_rq a_tb (xh_ui h 45 i (Int32.ofInt 1)) := a_rq_ui hq
        exact ih (i + 1) _ hq (GI_f gi (fx_ui (fx_0) rfl)) (fx_ui (ge) rfl) (by omega) (lp_w0 (w45) (fun e => by have c := c2; rw [e, show xg 0 h.2.1 46 (4096 * t + sv) = S from (fx_i ge rfl).trans b46, show xg 0 h.2.1 49 t = nd from (fx_i ge rfl).trans b49] at c; exact b_g2 c))
set_option maxRecDepth 100000 in
set_option maxHeartbeats 4000000 in
theorem eld_156 {p o aw sv t : Nat} {fs : List Nat} {h0 hb : xh_H} {one av : Bool} {Q : Option Value → xh_H → Prop} (s4 : sv < 4096) (et : fs.length - 1 = t) (t12 : t ≤ 12) (b45 : xg 0 hb.2.1 45 sv = bl one) (K : ∀ (f : Nat) (x : Int32) (h : xh_H), a_rq a_tb h → GI h0 h T n mem nn NW p o fs aw → fx (E2 t) fN hb h → xg 0 h.2.1 42 (4096 * t + sv) = bl (av && one) → xq f xi_X10_end_ xmi_X10_end_ 202 [(0, .ref 39), (1, .int (nI (4096 * t))), (2, .int x)] [] h Q) : ∀ (f i : Nat) (h : xh_H), a_rq a_tb h → GI h0 h T n mem nn NW p o fs aw → fx (E2 t) fN hb h → i ≤ 4096 → xg 0 h.2.1 42 (4096 * t + sv) = (if sv < i then bl (av && one) else bl av) → xq f xi_X10_end_ xmi_X10_end_ 156 [(0, .ref 39), (1, .int (nI (4096 * t))), (2, .int (nI i))] [] h Q := by
  intro f
  induction f with
  | zero => intros; exact xq_0
  | succ f ih =>
    intro i h hq gi ge i6 w42
    have e28 : xg 0 h.2.1 39 28 = nI t := by rw [← et]; exact gi.2.1.2.2.2.2.2.2.2.1
    cases c1 : xe_c .ge (nI i) 4096 with
    | true =>
      have z1 : i ≥ 4096 := nq_get (a := i) (b := 4096) (by omega) (by omega) c1
      refine xq_m 202 [0, 1, 2] [(0, .ref 39), (1, .int (nI (4096 * t))), (2, .int (nI i))] [] h [true] 5 hq rfl ⟨c1, trivial⟩ (fun hq => ?_)
      exact K f _ _ hq gi ge (lp_1 w42 (by omega))
    | false =>
      have z1 : i < 4096 := nq_gef (a := i) (b := 4096) (by omega) (by omega) c1
      cases c2 : xe_c .eq (xg 0 h.2.1 42 (4096 * t + i)) 0 with
      | true =>
        refine xq_m 156 [0, 1, 2] [(0, .ref 39), (1, .int (nI (4096 * t))), (2, .int ((nI i) + Int32.ofInt 1))] [] (xh_ui h 42 (((nI (4096 * t)) + (nI i)).toNatClampNeg) (vp_nar .boolean (Int32.ofInt 0))) [false, true] 21 hq rfl ⟨c1, (show xe_c .eq (xg 0 h.2.1 42 (((nI (4096 * t)) + (nI i)).toNatClampNeg)) 0 = true by rw [show (xg 0 h.2.1 42 (((nI (4096 * t)) + (nI i)).toNatClampNeg)) = xg 0 h.2.1 42 (4096 * t + i) from (by rw [show ((nI (4096 * t)) + (nI i)) = nI (4096 * t + i) from nI_add _ _, show ((nI (4096 * t + i)).toNatClampNeg) = (4096 * t + i) from nI_clamp (by omega)])]; exact c2), trivial⟩ (fun _ => ?_)
        rw [show ((nI (4096 * t)) + (nI i)) = nI (4096 * t + i) from nI_add _ _]
        rw [show (vp_nar .boolean (Int32.ofInt 0)) = Int32.ofInt 0 from rfl]
        rw [show ((nI (4096 * t + i)).toNatClampNeg) = (4096 * t + i) from nI_clamp (by omega)]
        rw [show ((nI i) + Int32.ofInt 1) = nI (i + 1) from nI_1 _]
        have hq : a_rq a_tb (xh_ui h 42 (4096 * t + i) (Int32.ofInt 0)) := a_rq_ui hq
        exact ih (i + 1) _ hq (GI_f gi (fx_ui (fx_0) rfl)) (fx_ui (ge) (E2t (by omega))) (by omega) (lp_w (w42) (fun e => by have c := c2; rw [e, w42, if_neg (by omega)] at c; exact b_a1 c))
      | false =>
        cases c3 : xe_c .eq (xg 0 h.2.1 45 i) 0 with
        | true =>
          refine xq_m 156 [0, 1, 2] [(0, .ref 39), (1, .int (nI (4096 * t))), (2, .int ((nI i) + Int32.ofInt 1))] [] (xh_ui h 42 (((nI (4096 * t)) + (nI i)).toNatClampNeg) (vp_nar .boolean (Int32.ofInt 0))) [false, false, true] 26 hq rfl ⟨c1, (show xe_c .eq (xg 0 h.2.1 42 (((nI (4096 * t)) + (nI i)).toNatClampNeg)) 0 = false by rw [show (xg 0 h.2.1 42 (((nI (4096 * t)) + (nI i)).toNatClampNeg)) = xg 0 h.2.1 42 (4096 * t + i) from (by rw [show ((nI (4096 * t)) + (nI i)) = nI (4096 * t + i) from nI_add _ _, show ((nI (4096 * t + i)).toNatClampNeg) = (4096 * t + i) from nI_clamp (by omega)])]; exact c2), (show xe_c .eq (xg 0 h.2.1 45 ((nI i).toNatClampNeg)) 0 = true by rw [show (xg 0 h.2.1 45 ((nI i).toNatClampNeg)) = xg 0 h.2.1 45 i from (by rw [show ((nI i).toNatClampNeg) = i from nI_clamp (by omega)])]; exact c3), trivial⟩ (fun _ => ?_)
          rw [show ((nI (4096 * t)) + (nI i)) = nI (4096 * t + i) from nI_add _ _]
          rw [show (vp_nar .boolean (Int32.ofInt 0)) = Int32.ofInt 0 from rfl]
          rw [show ((nI (4096 * t + i)).toNatClampNeg) = (4096 * t + i) from nI_clamp (by omega)]
          rw [show ((nI i) + Int32.ofInt 1) = nI (i + 1) from nI_1 _]
          have hq : a_rq a_tb (xh_ui h 42 (4096 * t + i) (Int32.ofInt 0)) := a_rq_ui hq
          exact ih (i + 1) _ hq (GI_f gi (fx_ui (fx_0) rfl)) (fx_ui (ge) (E2t (by omega))) (by omega) (lp_w (w42) (fun e => by have c := c2; rw [e, w42, if_neg (by omega)] at c; have c' := c3; rw [e, show xg 0 h.2.1 45 sv = bl one from (fx_i ge rfl).trans b45] at c'; exact b_a2 c c'))
        | false =>
          refine xq_m 156 [0, 1, 2] [(0, .ref 39), (1, .int (nI (4096 * t))), (2, .int ((nI i) + Int32.ofInt 1))] [] (xh_ui h 42 (((nI (4096 * t)) + (nI i)).toNatClampNeg) (vp_nar .boolean (Int32.ofInt 1))) [false, false, false] 27 hq rfl ⟨c1, (show xe_c .eq (xg 0 h.2.1 42 (((nI (4096 * t)) + (nI i)).toNatClampNeg)) 0 = false by rw [show (xg 0 h.2.1 42 (((nI (4096 * t)) + (nI i)).toNatClampNeg)) = xg 0 h.2.1 42 (4096 * t + i) from (by rw [show ((nI (4096 * t)) + (nI i)) = nI (4096 * t + i) from nI_add _ _, show ((nI (4096 * t + i)).toNatClampNeg) = (4096 * t + i) from nI_clamp (by omega)])]; exact c2), (show xe_c .eq (xg 0 h.2.1 45 ((nI i).toNatClampNeg)) 0 = false by rw [show (xg 0 h.2.1 45 ((nI i).toNatClampNeg)) = xg 0 h.2.1 45 i from (by rw [show ((nI i).toNatClampNeg) = i from nI_clamp (by omega)])]; exact c3), trivial⟩ (fun _ => ?_)
          rw [show ((nI (4096 * t)) + (nI i)) = nI (4096 * t + i) from nI_add _ _]
          rw [show (vp_nar .boolean (Int32.ofInt 1)) = Int32.ofInt 1 from rfl]
          rw [show ((nI (4096 * t + i)).toNatClampNeg) = (4096 * t + i) from nI_clamp (by omega)]
          rw [show ((nI i) + Int32.ofInt 1) = nI (i + 1) from nI_1 _]
          have hq : a_rq a_tb (xh_ui h 42 (4096 * t + i) (Int32.ofInt 1)) := a_rq_ui hq
          exact ih (i + 1) _ hq (GI_f gi (fx_ui (fx_0) rfl)) (fx_ui (ge) (E2t (by omega))) (by omega) (lp_w (w42) (fun e => by have c := c2; rw [e, w42, if_neg (by omega)] at c; have c' := c3; rw [e, show xg 0 h.2.1 45 sv = bl one from (fx_i ge rfl).trans b45] at c'; exact b_a3 c c'))
set_option maxRecDepth 100000 in
set_option maxHeartbeats 4000000 in
theorem eld_222 {p o aw sv t : Nat} {fs : List Nat} {h0 hb : xh_H} {ov av : Bool} {Q : Option Value → xh_H → Prop} (s4 : sv < 4096) (et : fs.length - 1 = t) (t12 : t ≤ 12) (K : ∀ (f : Nat) (x : Int32) (h : xh_H), a_rq a_tb h → GI h0 h T n mem nn NW p o fs aw → fx (E1 t) fN hb h → xg 0 h.2.1 41 (4096 * t + sv) = bl (ov || av) → xg 0 h.2.1 42 (4096 * t + sv) = bl true → xq f xi_X10_end_ xmi_X10_end_ 279 [(0, .ref 39), (1, .int (nI (4096 * t))), (2, .int x)] [] h Q) : ∀ (f i : Nat) (h : xh_H), a_rq a_tb h → GI h0 h T n mem nn NW p o fs aw → fx (E1 t) fN hb h → i ≤ 4096 → xg 0 h.2.1 41 (4096 * t + sv) = (if sv < i then bl (ov || av) else bl ov) → xg 0 h.2.1 42 (4096 * t + sv) = (if sv < i then bl true else bl av) → xq f xi_X10_end_ xmi_X10_end_ 222 [(0, .ref 39), (1, .int (nI (4096 * t))), (2, .int (nI i))] [] h Q := by
  intro f
  induction f with
  | zero => intros; exact xq_0
  | succ f ih =>
    intro i h hq gi ge i6 w41 w42
    have e28 : xg 0 h.2.1 39 28 = nI t := by rw [← et]; exact gi.2.1.2.2.2.2.2.2.2.1
    cases c1 : xe_c .ge (nI i) 4096 with
    | true =>
      have z1 : i ≥ 4096 := nq_get (a := i) (b := 4096) (by omega) (by omega) c1
      refine xq_m 279 [0, 1, 2] [(0, .ref 39), (1, .int (nI (4096 * t))), (2, .int (nI i))] [] h [true] 5 hq rfl ⟨c1, trivial⟩ (fun hq => ?_)
      exact K f _ _ hq gi ge (lp_1 w41 (by omega)) (lp_1 w42 (by omega))
    | false =>
      have z1 : i < 4096 := nq_gef (a := i) (b := 4096) (by omega) (by omega) c1
      cases c2 : xe_c .ne (xg 0 h.2.1 41 (4096 * t + i)) 0 with
      | true =>
        refine xq_m 222 [0, 1, 2] [(0, .ref 39), (1, .int (nI (4096 * t))), (2, .int ((nI i) + Int32.ofInt 1))] [] (xh_ui (xh_ui h 41 (((nI (4096 * t)) + (nI i)).toNatClampNeg) (vp_nar .boolean (Int32.ofInt 1))) 42 (((nI (4096 * t)) + (nI i)).toNatClampNeg) (vp_nar .boolean (Int32.ofInt 1))) [false, true] 29 hq rfl ⟨c1, (show xe_c .ne (xg 0 h.2.1 41 (((nI (4096 * t)) + (nI i)).toNatClampNeg)) 0 = true by rw [show (xg 0 h.2.1 41 (((nI (4096 * t)) + (nI i)).toNatClampNeg)) = xg 0 h.2.1 41 (4096 * t + i) from (by rw [show ((nI (4096 * t)) + (nI i)) = nI (4096 * t + i) from nI_add _ _, show ((nI (4096 * t + i)).toNatClampNeg) = (4096 * t + i) from nI_clamp (by omega)])]; exact c2), trivial⟩ (fun _ => ?_)
        rw [show ((nI (4096 * t)) + (nI i)) = nI (4096 * t + i) from nI_add _ _]
        rw [show (vp_nar .boolean (Int32.ofInt 1)) = Int32.ofInt 1 from rfl]
        rw [show ((nI (4096 * t + i)).toNatClampNeg) = (4096 * t + i) from nI_clamp (by omega)]
        rw [show ((nI i) + Int32.ofInt 1) = nI (i + 1) from nI_1 _]
        have hq : a_rq a_tb (xh_ui (xh_ui h 41 (4096 * t + i) (Int32.ofInt 1)) 42 (4096 * t + i) (Int32.ofInt 1)) := a_rq_ui (a_rq_ui hq)
        exact ih (i + 1) _ hq (GI_f gi (fx_ui (fx_ui (fx_0) rfl) rfl)) (fx_ui (fx_ui (ge) (E1t (by omega))) (E1u (by omega))) (by omega) ((gx_o (by decide)).trans (lp_w (w41) (fun e => by have c := c2; rw [e, w41, if_neg (by omega)] at c; exact b_o1 c))) (lp_w (((gx_o (by decide)).trans w42)) (fun e => rfl))
      | false =>
        cases c3 : xe_c .eq (xg 0 h.2.1 42 (4096 * t + i)) 0 with
        | true =>
          refine xq_m 222 [0, 1, 2] [(0, .ref 39), (1, .int (nI (4096 * t))), (2, .int ((nI i) + Int32.ofInt 1))] [] (xh_ui (xh_ui h 41 (((nI (4096 * t)) + (nI i)).toNatClampNeg) (vp_nar .boolean (Int32.ofInt 0))) 42 (((nI (4096 * t)) + (nI i)).toNatClampNeg) (vp_nar .boolean (Int32.ofInt 1))) [false, false, true] 35 hq rfl ⟨c1, (show xe_c .ne (xg 0 h.2.1 41 (((nI (4096 * t)) + (nI i)).toNatClampNeg)) 0 = false by rw [show (xg 0 h.2.1 41 (((nI (4096 * t)) + (nI i)).toNatClampNeg)) = xg 0 h.2.1 41 (4096 * t + i) from (by rw [show ((nI (4096 * t)) + (nI i)) = nI (4096 * t + i) from nI_add _ _, show ((nI (4096 * t + i)).toNatClampNeg) = (4096 * t + i) from nI_clamp (by omega)])]; exact c2), (show xe_c .eq (xg 0 h.2.1 42 (((nI (4096 * t)) + (nI i)).toNatClampNeg)) 0 = true by rw [show (xg 0 h.2.1 42 (((nI (4096 * t)) + (nI i)).toNatClampNeg)) = xg 0 h.2.1 42 (4096 * t + i) from (by rw [show ((nI (4096 * t)) + (nI i)) = nI (4096 * t + i) from nI_add _ _, show ((nI (4096 * t + i)).toNatClampNeg) = (4096 * t + i) from nI_clamp (by omega)])]; exact c3), trivial⟩ (fun _ => ?_)
          rw [show ((nI (4096 * t)) + (nI i)) = nI (4096 * t + i) from nI_add _ _]
          rw [show (vp_nar .boolean (Int32.ofInt 0)) = Int32.ofInt 0 from rfl]
          rw [show (vp_nar .boolean (Int32.ofInt 1)) = Int32.ofInt 1 from rfl]
          rw [show ((nI (4096 * t + i)).toNatClampNeg) = (4096 * t + i) from nI_clamp (by omega)]
          rw [show ((nI i) + Int32.ofInt 1) = nI (i + 1) from nI_1 _]
          have hq : a_rq a_tb (xh_ui (xh_ui h 41 (4096 * t + i) (Int32.ofInt 0)) 42 (4096 * t + i) (Int32.ofInt 1)) := a_rq_ui (a_rq_ui hq)
          exact ih (i + 1) _ hq (GI_f gi (fx_ui (fx_ui (fx_0) rfl) rfl)) (fx_ui (fx_ui (ge) (E1t (by omega))) (E1u (by omega))) (by omega) ((gx_o (by decide)).trans (lp_w (w41) (fun e => by have c := c2; rw [e, w41, if_neg (by omega)] at c; have c' := c3; rw [e, w42, if_neg (by omega)] at c'; exact b_o2 c c'))) (lp_w (((gx_o (by decide)).trans w42)) (fun e => rfl))
        | false =>
          refine xq_m 222 [0, 1, 2] [(0, .ref 39), (1, .int (nI (4096 * t))), (2, .int ((nI i) + Int32.ofInt 1))] [] (xh_ui (xh_ui h 41 (((nI (4096 * t)) + (nI i)).toNatClampNeg) (vp_nar .boolean (Int32.ofInt 1))) 42 (((nI (4096 * t)) + (nI i)).toNatClampNeg) (vp_nar .boolean (Int32.ofInt 1))) [false, false, false] 36 hq rfl ⟨c1, (show xe_c .ne (xg 0 h.2.1 41 (((nI (4096 * t)) + (nI i)).toNatClampNeg)) 0 = false by rw [show (xg 0 h.2.1 41 (((nI (4096 * t)) + (nI i)).toNatClampNeg)) = xg 0 h.2.1 41 (4096 * t + i) from (by rw [show ((nI (4096 * t)) + (nI i)) = nI (4096 * t + i) from nI_add _ _, show ((nI (4096 * t + i)).toNatClampNeg) = (4096 * t + i) from nI_clamp (by omega)])]; exact c2), (show xe_c .eq (xg 0 h.2.1 42 (((nI (4096 * t)) + (nI i)).toNatClampNeg)) 0 = false by rw [show (xg 0 h.2.1 42 (((nI (4096 * t)) + (nI i)).toNatClampNeg)) = xg 0 h.2.1 42 (4096 * t + i) from (by rw [show ((nI (4096 * t)) + (nI i)) = nI (4096 * t + i) from nI_add _ _, show ((nI (4096 * t + i)).toNatClampNeg) = (4096 * t + i) from nI_clamp (by omega)])]; exact c3), trivial⟩ (fun _ => ?_)
          rw [show ((nI (4096 * t)) + (nI i)) = nI (4096 * t + i) from nI_add _ _]
          rw [show (vp_nar .boolean (Int32.ofInt 1)) = Int32.ofInt 1 from rfl]
          rw [show ((nI (4096 * t + i)).toNatClampNeg) = (4096 * t + i) from nI_clamp (by omega)]
          rw [show ((nI i) + Int32.ofInt 1) = nI (i + 1) from nI_1 _]
          have hq : a_rq a_tb (xh_ui (xh_ui h 41 (4096 * t + i) (Int32.ofInt 1)) 42 (4096 * t + i) (Int32.ofInt 1)) := a_rq_ui (a_rq_ui hq)
          exact ih (i + 1) _ hq (GI_f gi (fx_ui (fx_ui (fx_0) rfl) rfl)) (fx_ui (fx_ui (ge) (E1t (by omega))) (E1u (by omega))) (by omega) ((gx_o (by decide)).trans (lp_w (w41) (fun e => by have c := c2; rw [e, w41, if_neg (by omega)] at c; have c' := c3; rw [e, w42, if_neg (by omega)] at c'; exact b_o3 c c'))) (lp_w (((gx_o (by decide)).trans w42)) (fun e => rfl))
set_option maxRecDepth 100000 in
set_option maxHeartbeats 4000000 in
theorem eld_299 {p o aw sv t : Nat} {fs : List Nat} {h0 hb : xh_H} {one ov : Bool} {Q : Option Value → xh_H → Prop} (s4 : sv < 4096) (et : fs.length - 1 = t) (t12 : t ≤ 12) (b41 : xg 0 hb.2.1 41 (4096 * t + sv) = bl ov) (K : ∀ (f : Nat) (x : Int32) (h : xh_H), a_rq a_tb h → GI h0 h T n mem nn NW p o fs aw → fx E5 fN hb h → xg 0 h.2.1 45 sv = bl ov → xq f xi_X10_end_ xmi_X10_end_ 326 [(0, .ref 39), (1, .int (nI (4096 * t))), (2, .int x)] [] h Q) : ∀ (f i : Nat) (h : xh_H), a_rq a_tb h → GI h0 h T n mem nn NW p o fs aw → fx E5 fN hb h → i ≤ 4096 → xg 0 h.2.1 45 sv = (if sv < i then bl ov else bl one) → xq f xi_X10_end_ xmi_X10_end_ 299 [(0, .ref 39), (1, .int (nI (4096 * t))), (2, .int (nI i))] [] h Q := by
  intro f
  induction f with
  | zero => intros; exact xq_0
  | succ f ih =>
    intro i h hq gi ge i6 w45
    have e28 : xg 0 h.2.1 39 28 = nI t := by rw [← et]; exact gi.2.1.2.2.2.2.2.2.2.1
    cases c1 : xe_c .ge (nI i) 4096 with
    | true =>
      have z1 : i ≥ 4096 := nq_get (a := i) (b := 4096) (by omega) (by omega) c1
      refine xq_m 326 [0, 1, 2] [(0, .ref 39), (1, .int (nI (4096 * t))), (2, .int (nI i))] [] h [true] 5 hq rfl ⟨c1, trivial⟩ (fun hq => ?_)
      exact K f _ _ hq gi ge (lp_1 w45 (by omega))
    | false =>
      have z1 : i < 4096 := nq_gef (a := i) (b := 4096) (by omega) (by omega) c1
      refine xq_m 299 [0, 1, 2] [(0, .ref 39), (1, .int (nI (4096 * t))), (2, .int ((nI i) + Int32.ofInt 1))] [] (xh_ui h 45 ((nI i).toNatClampNeg) (vp_nar .boolean (xg 0 h.2.1 41 (((nI (4096 * t)) + (nI i)).toNatClampNeg)))) [false] 17 hq rfl ⟨c1, trivial⟩ (fun _ => ?_)
      rw [show (xg 0 h.2.1 41 (((nI (4096 * t)) + (nI i)).toNatClampNeg)) = xg 0 h.2.1 41 (4096 * t + i) from (by rw [show ((nI (4096 * t)) + (nI i)) = nI (4096 * t + i) from nI_add _ _, show ((nI (4096 * t + i)).toNatClampNeg) = (4096 * t + i) from nI_clamp (by omega)])]
      rw [show ((nI i).toNatClampNeg) = i from nI_clamp (by omega)]
      rw [show ((nI i) + Int32.ofInt 1) = nI (i + 1) from nI_1 _]
      have hq : a_rq a_tb (xh_ui h 45 i (vp_nar .boolean (xg 0 h.2.1 41 (4096 * t + i)))) := a_rq_ui hq
      exact ih (i + 1) _ hq (GI_f gi (fx_ui (fx_0) rfl)) (fx_ui (ge) rfl) (by omega) (lp_w0 (w45) (fun e => by rw [e, show xg 0 h.2.1 41 (4096 * t + sv) = bl ov from (fx_i ge rfl).trans b41]; exact bl_n))
set_option maxRecDepth 100000 in
set_option maxHeartbeats 4000000 in
theorem en_138d {f p o ty : Nat} {fs : List Nat} {h0 h : xh_H} {x : Int32} {sv t : Nat} {fr : List Nat} {ov av one y : Bool} {su w nd : Int32} {r : List vF} (s4 : sv < 4096) (hfs : fs = ty :: fr) (ht : fr.length = t) (dt : dfr h sv fr r) (hq : a_rq a_tb h) (gi : GI h0 h T n mem nn NW p o fs 0) (wf : wfs fs) (hty : fs.head? = some ty) (e47 : xg 0 h.2.1 47 (fs.length - 1) = nI ty) (ty2 : ty ≤ 2) (e2 : ty = 2) (b93 : tkk T n p = 93) (d45 : xg 0 h.2.1 45 sv = bl y) (yv : xe_c .ge (if one = true then su + w else su) nd = y) : xq f xi_X10_end_ xmi_X10_end_ 138 [(0, .ref 39), (1, .int (nI (4096 * t))), (2, .int x)] [] h (fun v h' => dQ h' sv (en T n p o fs) (ven T n p fs ((ov, av, su, w, nd) :: r) one)) := by
  have rr0 := gi.2.1
  have g0 := gi.1
  have hT : ∀ k, k < n → T k < 256 := fun k hk' => (rr0.1.2.2 k hk').1
  have rt := rr0.2.1
  have rb := (rkk_k (T := T) (n := n) (p := p)).1
  have kb := tkk_lt (T := T) (n := n) (p := p) hT
  have o120 := rr0.2.2.2.2.2.2.1
  have f1 := rr0.2.2.2.2.2.2.2.2.1
  have n16 := rr0.2.2.2.2.1.2.1
  have f13 := rr0.2.2.2.2.2.2.2.2.2.1
  have n6 := rr0.1.2.1
  have hh : ∀ j, fs.head? = some j ↔ ty = j := fun j => by rw [hty]; exact ⟨fun e => Option.some.inj e, fun e => by rw [e]⟩
  have et : fs.length - 1 = t := by rw [hfs, ← ht]; rfl
  have t12 : t ≤ 12 := by omega
  have fl2 : ty ≠ 0 → 2 ≤ fs.length := fun e => by
    have w := wfs_t wf (fun e1 => e ((hh 0).mp e1))
    have w2 := wfs_n w
    cases hf : fs with
    | nil => rw [hf] at f1; exact absurd f1 (by decide)
    | cons a b =>
      cases b with
      | nil => rw [hf] at w2; exact absurd rfl w2
      | cons c d => simp only [List.length_cons]; omega
  refine xq_n 149 [0, 1, 2] [(0, .ref 39), (1, .int (nI (4096 * t))), (2, .int x)] [.ref 39] (xh_ui h 39 28 ((xg 0 h.2.1 39 28) - (Int32.ofInt 1))) [] 9 hq rfl trivial (fun _ => ?_)
  rw [show (xg 0 h.2.1 39 28) = (nI t) from (by rw [← et]; exact rr0.2.2.2.2.2.2.2.1)]
  rw [show ((nI t) - (Int32.ofInt 1)) = nI (t - 1) from nI_sub (b := 1) (by omega)]
  have hq : a_rq a_tb (xh_ui h 39 28 (nI (t - 1))) := a_rq_ui hq
  have nz1 : tkk T n p ≠ 0 := by omega
  have le1 := tke_le nz1
  refine xq_run hq rfl rfl (go_q hq (rtp_f (S := rT) (L := gL) rr0.1 (fx_ui (fx_0) rfl) rfl (fun _ => rfl)) ((gx_k (by decide)).trans (rt.2.2.2.2.2 (by omega))) le1) ?_
  rintro v1 h1 ⟨rfl, g1, t1⟩
  have hq := fx_q g1 hq
  have rb1 := (rkk_k (T := T) (n := n) (p := tke T n p)).1
  have kb1 := tkk_lt (T := T) (n := n) (p := tke T n p) hT
  refine xq_n 153 [] [] [.int (Int32.ofInt 1)] h1 [] 3 hq rfl trivial (fun hq => ?_)
  have er : en T n p o fs = .inl (0, tke T n p, o, fs.tail) := by
    unfold en
    rw [if_pos ((hh 2).mpr e2)]
    repeat (first | rw [if_pos (by omega)] | rw [if_neg (by omega)])
    try rfl
  have ev : ven T n p fs ((ov, av, su, w, nd) :: r) one = (r, y) := by
    rw [ven_c]
    rw [if_pos ((hh 2).mpr e2)]
    rw [if_pos (show tkk T n p = 93 by omega), yv]
    repeat (first | rw [if_pos (by omega)] | rw [if_neg (by omega)])
    try rfl
  rw [ev]
  exact xq_ret rfl rfl rfl (dQ_l er (by rw [hfs]; exact dfr_go s4 (dfr_39 s4 (dt)) g1) ((fx_i g1 rfl).trans ((gx_o (by decide)).trans (d45))))
set_option maxRecDepth 100000 in
set_option maxHeartbeats 4000000 in
theorem en_66d {f p o ty : Nat} {fs : List Nat} {h0 h : xh_H} {x : Int32} {sv t : Nat} {fr : List Nat} {ov av one : Bool} {su w nd S : Int32} {r : List vF} (s4 : sv < 4096) (hfs : fs = ty :: fr) (ht : fr.length = t) (dt : dfr h sv fr r) (hq : a_rq a_tb h) (gi : GI h0 h T n mem nn NW p o fs 0) (wf : wfs fs) (hty : fs.head? = some ty) (e47 : xg 0 h.2.1 47 (fs.length - 1) = nI ty) (ty2 : ty ≤ 2) (e2 : ty = 2) (d45 : xg 0 h.2.1 45 sv = bl one) (d46 : xg 0 h.2.1 46 (4096 * t + sv) = S) (d49 : xg 0 h.2.1 49 t = nd) (Sv : S = if one = true then su + w else su) : xq f xi_X10_end_ xmi_X10_end_ 66 [(0, .ref 39), (1, .int (nI (4096 * t))), (2, .int x)] [] h (fun v h' => dQ h' sv (en T n p o fs) (ven T n p fs ((ov, av, su, w, nd) :: r) one)) := by
  have rr0 := gi.2.1
  have g0 := gi.1
  have hT : ∀ k, k < n → T k < 256 := fun k hk' => (rr0.1.2.2 k hk').1
  have rt := rr0.2.1
  have rb := (rkk_k (T := T) (n := n) (p := p)).1
  have kb := tkk_lt (T := T) (n := n) (p := p) hT
  have o120 := rr0.2.2.2.2.2.2.1
  have f1 := rr0.2.2.2.2.2.2.2.2.1
  have n16 := rr0.2.2.2.2.1.2.1
  have f13 := rr0.2.2.2.2.2.2.2.2.2.1
  have n6 := rr0.1.2.1
  have hh : ∀ j, fs.head? = some j ↔ ty = j := fun j => by rw [hty]; exact ⟨fun e => Option.some.inj e, fun e => by rw [e]⟩
  have et : fs.length - 1 = t := by rw [hfs, ← ht]; rfl
  have t12 : t ≤ 12 := by omega
  have fl2 : ty ≠ 0 → 2 ≤ fs.length := fun e => by
    have w := wfs_t wf (fun e1 => e ((hh 0).mp e1))
    have w2 := wfs_n w
    cases hf : fs with
    | nil => rw [hf] at f1; exact absurd f1 (by decide)
    | cons a b =>
      cases b with
      | nil => rw [hf] at w2; exact absurd rfl w2
      | cons c d => simp only [List.length_cons]; omega
  have e47t : ∀ {h' : xh_H}, GI h0 h' T n mem nn NW p o fs 0 → xg 0 h'.2.1 47 (fs.length - 1) = nI ty := fun {h'} g => by
    have w := g.2.1.2.2.2.2.2.2.2.2.2.2.1
    cases hf : fs with
    | nil => rw [hf] at hty; cases hty
    | cons a b =>
      rw [hf] at w hty
      have hty : a = ty := Option.some.inj hty
      rw [← hty]
      exact w.1
  refine xq_n 79 [0, 1, 2] [(0, .ref 39), (1, .int (nI (4096 * t))), (2, .int x)] [.int 93, .ref 39] (xh_ui h 48 ((xg 0 h.2.1 39 28).toNatClampNeg) (Int32.ofInt 1)) [] 10 hq rfl trivial (fun _ => ?_)
  rw [show (xg 0 h.2.1 39 28) = (nI t) from (by rw [← et]; exact rr0.2.2.2.2.2.2.2.1)]
  rw [show ((nI t).toNatClampNeg) = t from nI_clamp (by omega)]
  have hq : a_rq a_tb (xh_ui h 48 t (Int32.ofInt 1)) := a_rq_ui hq
  refine xq_run hq rfl rfl (rsg_q (c := 93) (by decide) (by decide) hT (rtk_ui (rt) rfl) hq) ?_
  rintro v1 h_v1 ⟨rfl, rfl⟩
  cases b2 : (decide (tkk T n p = 93)) with
  | true =>
    have db2 := of_decide_eq_true b2
    refine xq_n 94 [0, 1, 2] [(0, .ref 39), (1, .int (nI (4096 * t))), (2, .int (Int32.ofInt 0))] [] (xh_ui h 48 t (Int32.ofInt 1)) [true] 5 hq rfl ⟨rfl, trivial⟩ (fun hq => ?_)
    exact eld_94 (hb := (xh_ui h 48 t (Int32.ofInt 1))) s4 et t12 ((gx_o (by decide)).trans (d46)) ((gx_o (by decide)).trans (d49)) (fun f x h hq gi ge w45 => en_138d s4 hfs ht (dE5 s4 (dfr_48t s4 ht (dt)) ge) hq gi wf hty (e47t gi) ty2 e2 (by omega) w45 (by rw [Sv])) f 0 _ hq (GI_f gi (fx_ui (fx_0) rfl)) fx_0 (by omega) (lp_0 _ ((gx_o (by decide)).trans (d45)))
  | false =>
    have db2 := of_decide_eq_false b2
    refine xq_n 91 [] [] [.int (Int32.ofInt 1)] (xh_ui (xh_ui h 48 t (Int32.ofInt 1)) 39 29 (Int32.ofInt 1)) [false] 7 hq rfl ⟨rfl, trivial⟩ (fun _ => ?_)
    have hq : a_rq a_tb (xh_ui (xh_ui h 48 t (Int32.ofInt 1)) 39 29 (Int32.ofInt 1)) := a_rq_ui hq
    have er : en T n p o fs = .inl (1, p, o, fs) := by
      unfold en
      rw [if_pos ((hh 2).mpr e2)]
      repeat (first | rw [if_pos (by omega)] | rw [if_neg (by omega)] | rw [if_pos b2] | rw [if_neg (by rw [b2]; decide)])
      try rfl
    have ev : ven T n p fs ((ov, av, su, w, nd) :: r) one = ((ov, av, S, 1, nd) :: r, one) := by
      rw [ven_c]
      rw [if_pos ((hh 2).mpr e2)]
      rw [← Sv]
      repeat (first | rw [if_pos (by omega)] | rw [if_neg (by omega)] | rw [if_pos b2] | rw [if_neg (by rw [b2]; decide)])
      try rfl
    rw [ev]
    refine xq_ret rfl rfl rfl (dQ_l er ?_ ((gx_o (by decide)).trans ((gx_o (by decide)).trans (d45))))
    have dtl : dfr (xh_ui (xh_ui h 48 t (Int32.ofInt 1)) 39 29 (Int32.ofInt 1)) sv fr r := (dfr_39 s4 (dfr_48t s4 ht (dt)))
    have q1 : xg 0 (xh_ui (xh_ui h 48 t (Int32.ofInt 1)) 39 29 (Int32.ofInt 1)).2.1 46 (4096 * t + sv) = S := (gx_o (by decide)).trans ((gx_o (by decide)).trans (d46))
    have q2 : xg 0 (xh_ui (xh_ui h 48 t (Int32.ofInt 1)) 39 29 (Int32.ofInt 1)).2.1 48 t = 1 := (gx_o (by decide)).trans (gx_s)
    have q3 : xg 0 (xh_ui (xh_ui h 48 t (Int32.ofInt 1)) 39 29 (Int32.ofInt 1)).2.1 49 t = nd := (gx_o (by decide)).trans ((gx_o (by decide)).trans (d49))
    rw [hfs]
    subst ht
    exact ⟨fun _ => ⟨q1, q2, q3⟩, fun z => absurd e2 z, dtl⟩
set_option maxRecDepth 100000 in
set_option maxHeartbeats 4000000 in
theorem en_326d {f p o ty : Nat} {fs : List Nat} {h0 h : xh_H} {x : Int32} {sv t : Nat} {fr : List Nat} {ov av one y : Bool} {su w nd : Int32} {r : List vF} (s4 : sv < 4096) (hfs : fs = ty :: fr) (ht : fr.length = t) (dt : dfr h sv fr r) (hq : a_rq a_tb h) (gi : GI h0 h T n mem nn NW p o fs 0) (wf : wfs fs) (hty : fs.head? = some ty) (e47 : xg 0 h.2.1 47 (fs.length - 1) = nI ty) (ty2 : ty ≤ 2) (e2 : ty ≠ 2) (a2 : ky T n p 2 = false) (a3 : ky T n p 3 = false) (d45 : xg 0 h.2.1 45 sv = bl y) (yv : (ov || (av && one)) = y) : xq f xi_X10_end_ xmi_X10_end_ 326 [(0, .ref 39), (1, .int (nI (4096 * t))), (2, .int x)] [] h (fun v h' => dQ h' sv (en T n p o fs) (ven T n p fs ((ov, av, su, w, nd) :: r) one)) := by
  have rr0 := gi.2.1
  have g0 := gi.1
  have hT : ∀ k, k < n → T k < 256 := fun k hk' => (rr0.1.2.2 k hk').1
  have rt := rr0.2.1
  have rb := (rkk_k (T := T) (n := n) (p := p)).1
  have kb := tkk_lt (T := T) (n := n) (p := p) hT
  have o120 := rr0.2.2.2.2.2.2.1
  have f1 := rr0.2.2.2.2.2.2.2.2.1
  have n16 := rr0.2.2.2.2.1.2.1
  have f13 := rr0.2.2.2.2.2.2.2.2.2.1
  have n6 := rr0.1.2.1
  have hh : ∀ j, fs.head? = some j ↔ ty = j := fun j => by rw [hty]; exact ⟨fun e => Option.some.inj e, fun e => by rw [e]⟩
  have et : fs.length - 1 = t := by rw [hfs, ← ht]; rfl
  have t12 : t ≤ 12 := by omega
  have fl2 : ty ≠ 0 → 2 ≤ fs.length := fun e => by
    have w := wfs_t wf (fun e1 => e ((hh 0).mp e1))
    have w2 := wfs_n w
    cases hf : fs with
    | nil => rw [hf] at f1; exact absurd f1 (by decide)
    | cons a b =>
      cases b with
      | nil => rw [hf] at w2; exact absurd rfl w2
      | cons c d => simp only [List.length_cons]; omega
  cases c1 : xe_c .ne (nI ty) 0 with
  | true =>
    have z1 : ty ≠ 0 := nq_net (a := ty) (b := 0) (by omega) (by omega) c1
    refine xq_n 369 [0, 1, 2] [(0, .ref 39), (1, .int (nI (4096 * t))), (2, .int x)] [.int 41, .ref 39] h [true] 10 hq rfl ⟨(show xe_c .ne (xg 0 h.2.1 47 ((xg 0 h.2.1 39 28).toNatClampNeg)) 0 = true by rw [show (xg 0 h.2.1 47 ((xg 0 h.2.1 39 28).toNatClampNeg)) = (nI ty) from (by rw [show (xg 0 h.2.1 39 28) = (nI t) from (by rw [← et]; exact rr0.2.2.2.2.2.2.2.1), show ((nI t).toNatClampNeg) = t from nI_clamp (by omega)]; exact (by rw [← et]; exact e47))]; exact c1), trivial⟩ (fun hq => ?_)
    refine xq_run hq rfl rfl (rsg_q (c := 41) (by decide) (by decide) hT (rt) hq) ?_
    rintro v2 h_v2 ⟨rfl, rfl⟩
    cases b3 : (decide (tkk T n p = 41)) with
    | true =>
      have db3 := of_decide_eq_true b3
      refine xq_n 392 [0, 1, 2] [(0, .ref 39), (1, .int (nI (4096 * t))), (2, .int x)] [.ref 39] (xh_ui h 39 28 ((xg 0 h.2.1 39 28) - (Int32.ofInt 1))) [true] 10 hq rfl ⟨rfl, trivial⟩ (fun _ => ?_)
      rw [show (xg 0 h.2.1 39 28) = (nI t) from (by rw [← et]; exact rr0.2.2.2.2.2.2.2.1)]
      rw [show ((nI t) - (Int32.ofInt 1)) = nI (t - 1) from nI_sub (b := 1) (by omega)]
      have hq : a_rq a_tb (xh_ui h 39 28 (nI (t - 1))) := a_rq_ui hq
      have nz4 : tkk T n p ≠ 0 := by omega
      have le4 := tke_le nz4
      refine xq_run hq rfl rfl (go_q hq (rtp_f (S := rT) (L := gL) rr0.1 (fx_ui (fx_0) rfl) rfl (fun _ => rfl)) ((gx_k (by decide)).trans (rt.2.2.2.2.2 (by omega))) le4) ?_
      rintro v4 h4 ⟨rfl, g4, t4⟩
      have hq := fx_q g4 hq
      have rb4 := (rkk_k (T := T) (n := n) (p := tke T n p)).1
      have kb4 := tkk_lt (T := T) (n := n) (p := tke T n p) hT
      refine xq_n 396 [] [] [.int (Int32.ofInt 1)] h4 [] 3 hq rfl trivial (fun hq => ?_)
      have er : en T n p o fs = .inl (0, tke T n p, o, fs.tail) := by
        unfold en
        rw [if_neg (fun e => e2 ((hh 2).mp e))]
        rw [if_neg (by rw [a2]; decide), if_neg (by rw [a3]; decide)]
        first | rw [if_pos ((hh 0).mpr (by omega))] | rw [if_neg (fun e => by have := (hh 0).mp e; omega)]
        repeat (first | rw [if_pos (by omega)] | rw [if_neg (by omega)] | rw [if_pos b3] | rw [if_neg (by rw [b3]; decide)])
        try rfl
      have ev : ven T n p fs ((ov, av, su, w, nd) :: r) one = (r, y) := by
        rw [ven_c]
        rw [if_neg (fun e => e2 ((hh 2).mp e))]
        rw [if_neg (by rw [a2]; decide), if_neg (by rw [a3]; decide), yv]
        repeat (first | rw [if_pos (by omega)] | rw [if_neg (by omega)] | rw [if_pos b3] | rw [if_neg (by rw [b3]; decide)])
        try rfl
      rw [ev]
      exact xq_ret rfl rfl rfl (dQ_l er (by rw [hfs]; exact dfr_go s4 (dfr_39 s4 (dt)) g4) ((fx_i g4 rfl).trans ((gx_o (by decide)).trans (d45))))
    | false =>
      have db3 := of_decide_eq_false b3
      refine xq_n 377 [0, 1, 2] [(0, .ref 39), (1, .int (nI (4096 * t))), (2, .int x)] [.int (Int32.ofInt 1), .ref 39] h [false] 5 hq rfl ⟨rfl, trivial⟩ (fun hq => ?_)
      refine xq_run hq rfl rfl (bad_q (k := 1) hT (rt) hq) ?_
      rintro v5 h5 ⟨rfl, g5, f5, l5⟩
      have hq := fx_q g5 hq
      rw [show (if rkk T n p = 1 then 1 else 1) = 1 by split <;> rfl] at f5
      have er : en T n p o fs = .inr (1, tks T n p) := by
        unfold en
        rw [if_neg (fun e => e2 ((hh 2).mp e))]
        rw [if_neg (by rw [a2]; decide), if_neg (by rw [a3]; decide)]
        first | rw [if_pos ((hh 0).mpr (by omega))] | rw [if_neg (fun e => by have := (hh 0).mp e; omega)]
        repeat (first | rw [if_pos (by omega)] | rw [if_neg (by omega)] | rw [if_pos b3] | rw [if_neg (by rw [b3]; decide)])
        try rfl
      exact xq_ret rfl rfl rfl (dQ_r er)
  | false =>
    have z1 : ty = 0 := nq_nef (a := ty) (b := 0) (by omega) (by omega) c1
    refine xq_n 346 [0, 1, 2] [(0, .ref 39), (1, .int (nI (4096 * t))), (2, .int x)] [.int 59, .ref 39] (xh_ui h 39 30 (Int32.ofInt 1)) [false] 13 hq rfl ⟨(show xe_c .ne (xg 0 h.2.1 47 ((xg 0 h.2.1 39 28).toNatClampNeg)) 0 = false by rw [show (xg 0 h.2.1 47 ((xg 0 h.2.1 39 28).toNatClampNeg)) = (nI ty) from (by rw [show (xg 0 h.2.1 39 28) = (nI t) from (by rw [← et]; exact rr0.2.2.2.2.2.2.2.1), show ((nI t).toNatClampNeg) = t from nI_clamp (by omega)]; exact (by rw [← et]; exact e47))]; exact c1), trivial⟩ (fun _ => ?_)
    have hq : a_rq a_tb (xh_ui h 39 30 (Int32.ofInt 1)) := a_rq_ui hq
    refine xq_run hq rfl rfl (rsg_q (c := 59) (by decide) (by decide) hT (rtk_ui (rt) rfl) hq) ?_
    rintro v6 h_v6 ⟨rfl, rfl⟩
    cases b7 : (decide (tkk T n p = 59)) with
    | true =>
      have db7 := of_decide_eq_true b7
      refine xq_n 365 [] [] [.int (Int32.ofInt 1)] (xh_ui h 39 30 (Int32.ofInt 1)) [true] 5 hq rfl ⟨rfl, trivial⟩ (fun hq => ?_)
      have er : en T n p o fs = .inl (0, tke T n p, o, []) := by
        unfold en
        rw [if_neg (fun e => e2 ((hh 2).mp e))]
        rw [if_neg (by rw [a2]; decide), if_neg (by rw [a3]; decide)]
        first | rw [if_pos ((hh 0).mpr (by omega))] | rw [if_neg (fun e => by have := (hh 0).mp e; omega)]
        repeat (first | rw [if_pos (by omega)] | rw [if_neg (by omega)] | rw [if_pos b7] | rw [if_neg (by rw [b7]; decide)])
        try rfl
      have ev : ven T n p fs ((ov, av, su, w, nd) :: r) one = (r, y) := by
        rw [ven_c]
        rw [if_neg (fun e => e2 ((hh 2).mp e))]
        rw [if_neg (by rw [a2]; decide), if_neg (by rw [a3]; decide), yv]
        repeat (first | rw [if_pos (by omega)] | rw [if_neg (by omega)] | rw [if_pos b7] | rw [if_neg (by rw [b7]; decide)])
        try rfl
      rw [ev]
      have fn : fr = [] := by have := wfs_0 wf (by rw [hty, show ty = 0 by omega]); rw [hfs] at this; cases this; rfl
      exact xq_ret rfl rfl rfl (dQ_l er (by have d : dfr (xh_ui h 39 30 (Int32.ofInt 1)) sv fr r := (dfr_39 s4 (dt)); rw [fn] at d; exact d) ((gx_o (by decide)).trans (d45)))
    | false =>
      have db7 := of_decide_eq_false b7
      refine xq_n 354 [0, 1, 2] [(0, .ref 39), (1, .int (nI (4096 * t))), (2, .int x)] [.int (Int32.ofInt 1), .ref 39] (xh_ui h 39 30 (Int32.ofInt 1)) [false] 5 hq rfl ⟨rfl, trivial⟩ (fun hq => ?_)
      refine xq_run hq rfl rfl (bad_q (k := 1) hT (rtk_ui (rt) rfl) hq) ?_
      rintro v8 h8 ⟨rfl, g8, f8, l8⟩
      have hq := fx_q g8 hq
      rw [show (if rkk T n p = 1 then 1 else 1) = 1 by split <;> rfl] at f8
      refine xq_n 365 [] [] [.int (Int32.ofInt 0)] h8 [true] 4 hq rfl ⟨(by decide), trivial⟩ (fun hq => ?_)
      have er : en T n p o fs = .inr (1, tks T n p) := by
        unfold en
        rw [if_neg (fun e => e2 ((hh 2).mp e))]
        rw [if_neg (by rw [a2]; decide), if_neg (by rw [a3]; decide)]
        first | rw [if_pos ((hh 0).mpr (by omega))] | rw [if_neg (fun e => by have := (hh 0).mp e; omega)]
        repeat (first | rw [if_pos (by omega)] | rw [if_neg (by omega)] | rw [if_pos b7] | rw [if_neg (by rw [b7]; decide)])
        try rfl
      exact xq_ret rfl rfl rfl (dQ_r er)
set_option maxRecDepth 100000 in
set_option maxHeartbeats 4000000 in
theorem en_279d {f p o ty : Nat} {fs : List Nat} {h0 h : xh_H} {x : Int32} {sv t : Nat} {fr : List Nat} {ov av one y : Bool} {su w nd : Int32} {r : List vF} (s4 : sv < 4096) (hfs : fs = ty :: fr) (ht : fr.length = t) (dt : dfr h sv fr r) (hq : a_rq a_tb h) (gi : GI h0 h T n mem nn NW p o fs 0) (wf : wfs fs) (hty : fs.head? = some ty) (e47 : xg 0 h.2.1 47 (fs.length - 1) = nI ty) (ty2 : ty ≤ 2) (e2 : ty ≠ 2) (a2 : ky T n p 2 = false) (d45 : xg 0 h.2.1 45 sv = bl one) (d41 : xg 0 h.2.1 41 (4096 * t + sv) = bl y) (d42 : xg 0 h.2.1 42 (4096 * t + sv) = bl true) (yv : (ov || (av && one)) = y) : xq f xi_X10_end_ xmi_X10_end_ 279 [(0, .ref 39), (1, .int (nI (4096 * t))), (2, .int x)] [] h (fun v h' => dQ h' sv (en T n p o fs) (ven T n p fs ((ov, av, su, w, nd) :: r) one)) := by
  have rr0 := gi.2.1
  have g0 := gi.1
  have hT : ∀ k, k < n → T k < 256 := fun k hk' => (rr0.1.2.2 k hk').1
  have rt := rr0.2.1
  have rb := (rkk_k (T := T) (n := n) (p := p)).1
  have kb := tkk_lt (T := T) (n := n) (p := p) hT
  have o120 := rr0.2.2.2.2.2.2.1
  have f1 := rr0.2.2.2.2.2.2.2.2.1
  have n16 := rr0.2.2.2.2.1.2.1
  have f13 := rr0.2.2.2.2.2.2.2.2.2.1
  have n6 := rr0.1.2.1
  have hh : ∀ j, fs.head? = some j ↔ ty = j := fun j => by rw [hty]; exact ⟨fun e => Option.some.inj e, fun e => by rw [e]⟩
  have et : fs.length - 1 = t := by rw [hfs, ← ht]; rfl
  have t12 : t ≤ 12 := by omega
  have fl2 : ty ≠ 0 → 2 ≤ fs.length := fun e => by
    have w := wfs_t wf (fun e1 => e ((hh 0).mp e1))
    have w2 := wfs_n w
    cases hf : fs with
    | nil => rw [hf] at f1; exact absurd f1 (by decide)
    | cons a b =>
      cases b with
      | nil => rw [hf] at w2; exact absurd rfl w2
      | cons c d => simp only [List.length_cons]; omega
  have e47t : ∀ {h' : xh_H}, GI h0 h' T n mem nn NW p o fs 0 → xg 0 h'.2.1 47 (fs.length - 1) = nI ty := fun {h'} g => by
    have w := g.2.1.2.2.2.2.2.2.2.2.2.2.1
    cases hf : fs with
    | nil => rw [hf] at hty; cases hty
    | cons a b =>
      rw [hf] at w hty
      have hty : a = ty := Option.some.inj hty
      rw [← hty]
      exact w.1
  refine xq_n 280 [0, 1, 2] [(0, .ref 39), (1, .int (nI (4096 * t))), (2, .int x)] [.ref 39] h [] 3 hq rfl trivial (fun hq => ?_)
  refine xq_run hq rfl rfl (rw3_q hT (rt) hq) ?_
  rintro v1 h_v1 ⟨rfl, rfl⟩
  cases b2 : (ky T n p 3) with
  | true =>
    have db2 := of_decide_eq_true b2
    refine xq_n 292 [0, 1, 2] [(0, .ref 39), (1, .int (nI (4096 * t))), (2, .int x)] [.ref 39] (xh_ui h 39 29 (Int32.ofInt 1)) [false] 7 hq rfl ⟨rfl, trivial⟩ (fun _ => ?_)
    have hq : a_rq a_tb (xh_ui h 39 29 (Int32.ofInt 1)) := a_rq_ui hq
    have nz3 : tkk T n p ≠ 0 := by omega
    have le3 := tke_le nz3
    refine xq_run hq rfl rfl (go_q hq (rtp_f (S := rT) (L := gL) rr0.1 (fx_ui (fx_0) rfl) rfl (fun _ => rfl)) ((gx_k (by decide)).trans (rt.2.2.2.2.2 (by omega))) le3) ?_
    rintro v3 h3 ⟨rfl, g3, t3⟩
    have hq := fx_q g3 hq
    have rb3 := (rkk_k (T := T) (n := n) (p := tke T n p)).1
    have kb3 := tkk_lt (T := T) (n := n) (p := tke T n p) hT
    refine xq_n 296 [] [] [.int (Int32.ofInt 1)] h3 [] 3 hq rfl trivial (fun hq => ?_)
    have er : en T n p o fs = .inl (1, tke T n p, o, fs) := by
      unfold en
      rw [if_neg (fun e => e2 ((hh 2).mp e))]
      rw [if_neg (by rw [a2]; decide)]
      repeat (first | rw [if_pos (by omega)] | rw [if_neg (by omega)] | rw [if_pos b2] | rw [if_neg (by rw [b2]; decide)])
      try rfl
    have ev : ven T n p fs ((ov, av, su, w, nd) :: r) one = ((y, true, su, w, nd) :: r, one) := by
      rw [ven_c]
      rw [if_neg (fun e => e2 ((hh 2).mp e))]
      rw [if_neg (by rw [a2]; decide), yv]
      repeat (first | rw [if_pos (by omega)] | rw [if_neg (by omega)] | rw [if_pos b2] | rw [if_neg (by rw [b2]; decide)])
      try rfl
    rw [ev]
    refine xq_ret rfl rfl rfl (dQ_l er ?_ ((fx_i g3 rfl).trans ((gx_o (by decide)).trans (d45))))
    have dtl : dfr h3 sv fr r := (dfr_go s4 (dfr_39 s4 (dt)) g3)
    have q1 : xg 0 h3.2.1 41 (4096 * t + sv) = bl y := (fx_i g3 rfl).trans ((gx_o (by decide)).trans (d41))
    have q2 : xg 0 h3.2.1 42 (4096 * t + sv) = bl true := (fx_i g3 rfl).trans ((gx_o (by decide)).trans (d42))
    rw [hfs]
    subst ht
    exact ⟨fun z => absurd z e2, fun _ => ⟨q1, q2⟩, dtl⟩
  | false =>
    have db2 := of_decide_eq_false b2
    refine xq_n 299 [0, 1, 2] [(0, .ref 39), (1, .int (nI (4096 * t))), (2, .int (Int32.ofInt 0))] [] h [true] 5 hq rfl ⟨rfl, trivial⟩ (fun hq => ?_)
    exact eld_299 (hb := h) (ov := y) (one := one) s4 et t12 (d41) (fun f x h hq gi ge w45 => en_326d s4 hfs ht (dE5 s4 (dt) ge) hq gi wf hty (e47t gi) ty2 e2 a2 b2 w45 yv) f 0 _ hq (gi) fx_0 (by omega) (lp_0 _ (d45))
set_option maxRecDepth 100000 in
set_option maxHeartbeats 4000000 in
theorem en_202d {f p o ty : Nat} {fs : List Nat} {h0 h : xh_H} {x : Int32} {sv t : Nat} {fr : List Nat} {ov av one : Bool} {su w nd : Int32} {r : List vF} (s4 : sv < 4096) (hfs : fs = ty :: fr) (ht : fr.length = t) (dt : dfr h sv fr r) (hq : a_rq a_tb h) (gi : GI h0 h T n mem nn NW p o fs 0) (wf : wfs fs) (hty : fs.head? = some ty) (e47 : xg 0 h.2.1 47 (fs.length - 1) = nI ty) (ty2 : ty ≤ 2) (e2 : ty ≠ 2) (d45 : xg 0 h.2.1 45 sv = bl one) (d41 : xg 0 h.2.1 41 (4096 * t + sv) = bl ov) (d42 : xg 0 h.2.1 42 (4096 * t + sv) = bl (av && one)) : xq f xi_X10_end_ xmi_X10_end_ 202 [(0, .ref 39), (1, .int (nI (4096 * t))), (2, .int x)] [] h (fun v h' => dQ h' sv (en T n p o fs) (ven T n p fs ((ov, av, su, w, nd) :: r) one)) := by
  have rr0 := gi.2.1
  have g0 := gi.1
  have hT : ∀ k, k < n → T k < 256 := fun k hk' => (rr0.1.2.2 k hk').1
  have rt := rr0.2.1
  have rb := (rkk_k (T := T) (n := n) (p := p)).1
  have kb := tkk_lt (T := T) (n := n) (p := p) hT
  have o120 := rr0.2.2.2.2.2.2.1
  have f1 := rr0.2.2.2.2.2.2.2.2.1
  have n16 := rr0.2.2.2.2.1.2.1
  have f13 := rr0.2.2.2.2.2.2.2.2.2.1
  have n6 := rr0.1.2.1
  have hh : ∀ j, fs.head? = some j ↔ ty = j := fun j => by rw [hty]; exact ⟨fun e => Option.some.inj e, fun e => by rw [e]⟩
  have et : fs.length - 1 = t := by rw [hfs, ← ht]; rfl
  have t12 : t ≤ 12 := by omega
  have fl2 : ty ≠ 0 → 2 ≤ fs.length := fun e => by
    have w := wfs_t wf (fun e1 => e ((hh 0).mp e1))
    have w2 := wfs_n w
    cases hf : fs with
    | nil => rw [hf] at f1; exact absurd f1 (by decide)
    | cons a b =>
      cases b with
      | nil => rw [hf] at w2; exact absurd rfl w2
      | cons c d => simp only [List.length_cons]; omega
  have e47t : ∀ {h' : xh_H}, GI h0 h' T n mem nn NW p o fs 0 → xg 0 h'.2.1 47 (fs.length - 1) = nI ty := fun {h'} g => by
    have w := g.2.1.2.2.2.2.2.2.2.2.2.2.1
    cases hf : fs with
    | nil => rw [hf] at hty; cases hty
    | cons a b =>
      rw [hf] at w hty
      have hty : a = ty := Option.some.inj hty
      rw [← hty]
      exact w.1
  refine xq_n 203 [0, 1, 2] [(0, .ref 39), (1, .int (nI (4096 * t))), (2, .int x)] [.ref 39] h [] 3 hq rfl trivial (fun hq => ?_)
  refine xq_run hq rfl rfl (rw2_q hT (rt) hq) ?_
  rintro v1 h_v1 ⟨rfl, rfl⟩
  cases b2 : (ky T n p 2) with
  | true =>
    have db2 := of_decide_eq_true b2
    refine xq_n 215 [0, 1, 2] [(0, .ref 39), (1, .int (nI (4096 * t))), (2, .int x)] [.ref 39] (xh_ui h 39 29 (Int32.ofInt 1)) [false] 7 hq rfl ⟨rfl, trivial⟩ (fun _ => ?_)
    have hq : a_rq a_tb (xh_ui h 39 29 (Int32.ofInt 1)) := a_rq_ui hq
    have nz3 : tkk T n p ≠ 0 := by omega
    have le3 := tke_le nz3
    refine xq_run hq rfl rfl (go_q hq (rtp_f (S := rT) (L := gL) rr0.1 (fx_ui (fx_0) rfl) rfl (fun _ => rfl)) ((gx_k (by decide)).trans (rt.2.2.2.2.2 (by omega))) le3) ?_
    rintro v3 h3 ⟨rfl, g3, t3⟩
    have hq := fx_q g3 hq
    have rb3 := (rkk_k (T := T) (n := n) (p := tke T n p)).1
    have kb3 := tkk_lt (T := T) (n := n) (p := tke T n p) hT
    refine xq_n 219 [] [] [.int (Int32.ofInt 1)] h3 [] 3 hq rfl trivial (fun hq => ?_)
    have er : en T n p o fs = .inl (1, tke T n p, o, fs) := by
      unfold en
      rw [if_neg (fun e => e2 ((hh 2).mp e))]
      repeat (first | rw [if_pos (by omega)] | rw [if_neg (by omega)] | rw [if_pos b2] | rw [if_neg (by rw [b2]; decide)])
      try rfl
    have ev : ven T n p fs ((ov, av, su, w, nd) :: r) one = ((ov, av && one, su, w, nd) :: r, one) := by
      rw [ven_c]
      rw [if_neg (fun e => e2 ((hh 2).mp e))]
      repeat (first | rw [if_pos (by omega)] | rw [if_neg (by omega)] | rw [if_pos b2] | rw [if_neg (by rw [b2]; decide)])
      try rfl
    rw [ev]
    refine xq_ret rfl rfl rfl (dQ_l er ?_ ((fx_i g3 rfl).trans ((gx_o (by decide)).trans (d45))))
    have dtl : dfr h3 sv fr r := (dfr_go s4 (dfr_39 s4 (dt)) g3)
    have q1 : xg 0 h3.2.1 41 (4096 * t + sv) = bl ov := (fx_i g3 rfl).trans ((gx_o (by decide)).trans (d41))
    have q2 : xg 0 h3.2.1 42 (4096 * t + sv) = bl (av && one) := (fx_i g3 rfl).trans ((gx_o (by decide)).trans (d42))
    rw [hfs]
    subst ht
    exact ⟨fun z => absurd z e2, fun _ => ⟨q1, q2⟩, dtl⟩
  | false =>
    have db2 := of_decide_eq_false b2
    refine xq_n 222 [0, 1, 2] [(0, .ref 39), (1, .int (nI (4096 * t))), (2, .int (Int32.ofInt 0))] [] h [true] 5 hq rfl ⟨rfl, trivial⟩ (fun hq => ?_)
    exact eld_222 (hb := h) (ov := ov) (av := av && one) s4 et t12 (fun f x h hq gi ge w41 w42 => en_279d s4 hfs ht (dE1 s4 ht (dt) ge) hq gi wf hty (e47t gi) ty2 e2 b2 ((fx_i ge rfl).trans (d45)) w41 w42 rfl) f 0 _ hq (gi) fx_0 (by omega) (lp_0 _ (d41)) (lp_0 _ (d42))
set_option maxRecDepth 100000 in
set_option maxHeartbeats 4000000 in
/-- X10.end -/
theorem en_dd {f p o ty : Nat} {fs : List Nat} {h0 h : xh_H} {sv : Nat} {ds : List vF} {one : Bool} (s4 : sv < 4096) (dd : dfr h sv fs ds) (d45 : xg 0 h.2.1 45 sv = bl one) (hq : a_rq a_tb h) (gi : GI h0 h T n mem nn NW p o fs 0) (wf : wfs fs) (hty : fs.head? = some ty) (e47 : xg 0 h.2.1 47 (fs.length - 1) = nI ty) (ty2 : ty ≤ 2) : xq f xi_X10_end_ xmi_X10_end_ 0 [(0, .ref 39)] [] h (fun v h' => dQ h' sv (en T n p o fs) (ven T n p fs ds one)) := by
  have rr0 := gi.2.1
  have g0 := gi.1
  have hT : ∀ k, k < n → T k < 256 := fun k hk' => (rr0.1.2.2 k hk').1
  have rt := rr0.2.1
  have rb := (rkk_k (T := T) (n := n) (p := p)).1
  have kb := tkk_lt (T := T) (n := n) (p := p) hT
  have o120 := rr0.2.2.2.2.2.2.1
  have f1 := rr0.2.2.2.2.2.2.2.2.1
  have n16 := rr0.2.2.2.2.1.2.1
  have f13 := rr0.2.2.2.2.2.2.2.2.2.1
  have n6 := rr0.1.2.1
  have e47t : ∀ {h' : xh_H}, GI h0 h' T n mem nn NW p o fs 0 → xg 0 h'.2.1 47 (fs.length - 1) = nI ty := fun {h'} g => by
    have w := g.2.1.2.2.2.2.2.2.2.2.2.2.1
    cases hf : fs with
    | nil => rw [hf] at hty; cases hty
    | cons a b =>
      rw [hf] at w hty
      have hty : a = ty := Option.some.inj hty
      rw [← hty]
      exact w.1
  obtain ⟨fr, hfs⟩ : ∃ fr, fs = ty :: fr := by
    cases hf : fs with
    | nil => rw [hf] at hty; cases hty
    | cons a b => rw [hf] at hty; cases hty; exact ⟨b, rfl⟩
  rw [hfs] at dd
  cases ds with
  | nil => exact absurd dd (by unfold dfr; exact id)
  | cons y r =>
  obtain ⟨ov, av, su, w, nd⟩ := y
  obtain ⟨q2, q1, dt⟩ := dd
  obtain ⟨t, ht⟩ : ∃ t, fr.length = t := ⟨_, rfl⟩
  rw [ht] at q2 q1
  have et : fs.length - 1 = t := by rw [hfs, ← ht]; rfl
  have t12 : t ≤ 12 := by omega
  cases c1 : xe_c .ne (nI ty) (Int32.ofInt 2) with
  | true =>
    have z1 : ty ≠ 2 := nq_net (a := ty) (b := 2) (by omega) (by omega) c1
    refine xq_n 156 [0, 1, 2] [(0, .ref 39), (1, .int (4096 * (xg 0 h.2.1 39 28))), (2, .int (Int32.ofInt 0))] [] h [true] 16 hq rfl ⟨(show xe_c .ne (xg 0 h.2.1 47 ((xg 0 h.2.1 39 28).toNatClampNeg)) (Int32.ofInt 2) = true by rw [show (xg 0 h.2.1 47 ((xg 0 h.2.1 39 28).toNatClampNeg)) = (nI ty) from (by rw [show (xg 0 h.2.1 39 28) = (nI t) from (by rw [← et]; exact rr0.2.2.2.2.2.2.2.1), show ((nI t).toNatClampNeg) = t from nI_clamp (by omega)]; exact (by rw [← et]; exact e47))]; exact c1), trivial⟩ (fun hq => ?_)
    rw [show (xg 0 h.2.1 39 28) = (nI t) from (by rw [← et]; exact rr0.2.2.2.2.2.2.2.1)]
    rw [show (4096 * (nI t)) = nI (4096 * t) from (nI_mul2 4096 t).symm]
    exact eld_156 (hb := h) (av := av) s4 et t12 d45 (fun f x h hq gi ge w42 => en_202d s4 hfs ht (dE2 s4 ht dt ge) hq gi wf hty (e47t gi) ty2 (by omega) ((fx_i ge rfl).trans d45) ((fx_i ge rfl).trans (q1 (by omega)).1) w42) f 0 _ hq gi fx_0 (by omega) (lp_0 _ (q1 (by omega)).2)
  | false =>
    have z1 : ty = 2 := nq_nef (a := ty) (b := 2) (by omega) (by omega) c1
    refine xq_n 24 [0, 1, 2] [(0, .ref 39), (1, .int (4096 * (xg 0 h.2.1 39 28))), (2, .int (Int32.ofInt 0))] [] h [false] 16 hq rfl ⟨(show xe_c .ne (xg 0 h.2.1 47 ((xg 0 h.2.1 39 28).toNatClampNeg)) (Int32.ofInt 2) = false by rw [show (xg 0 h.2.1 47 ((xg 0 h.2.1 39 28).toNatClampNeg)) = (nI ty) from (by rw [show (xg 0 h.2.1 39 28) = (nI t) from (by rw [← et]; exact rr0.2.2.2.2.2.2.2.1), show ((nI t).toNatClampNeg) = t from nI_clamp (by omega)]; exact (by rw [← et]; exact e47))]; exact c1), trivial⟩ (fun hq => ?_)
    rw [show (xg 0 h.2.1 39 28) = (nI t) from (by rw [← et]; exact rr0.2.2.2.2.2.2.2.1)]
    rw [show (4096 * (nI t)) = nI (4096 * t) from (nI_mul2 4096 t).symm]
    exact eld_24 (hb := h) s4 et t12 d45 (q2 (by omega)).2.1 (fun f x h hq gi ge w46 => en_66d s4 hfs ht (dE6 s4 ht dt ge) hq gi wf hty (e47t gi) ty2 (by omega) ((fx_i ge rfl).trans d45) w46 ((fx_i ge rfl).trans (q2 (by omega)).2.2) rfl) f 0 _ hq gi fx_0 (by omega) (lp_0 _ (q2 (by omega)).1)
end XDE
