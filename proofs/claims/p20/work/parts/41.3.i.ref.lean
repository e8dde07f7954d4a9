section XRF
theorem wv_lt {T : Nat → Nat} {q : Nat} : ∀ {m : Nat}, (∀ k, k < m → 97 ≤ T (q + k) ∧ T (q + k) ≤ 122) → wv T q m < 27 ^ m := by
  intro m
  induction m with
  | zero => intro _; show 0 < 27 ^ 0; decide
  | succ m ih =>
    intro h
    have h1 := ih (fun k hk' => h k (by omega))
    have h2 := h m (by omega)
    show 27 * wv T q m + (T (q + m) - 96) < 27 ^ (m + 1)
    rw [Nat.pow_succ]
    omega
theorem tkw_lt {T : Nat → Nat} {n p : Nat} (h : tkk T n p = 2) : tkw T n p < 282429536481 := by
  have h1 := tk2 h
  have h2 := wv_lt (T := T) (q := tks T n p) (m := tke T n p - tks T n p) (fun k hk' => h1.2.2 _ (by omega) (by omega))
  have h3 : 27 ^ (tke T n p - tks T n p) ≤ 27 ^ 8 := Nat.pow_le_pow_right (by decide) h1.2.1
  have h4 : (27 : Nat) ^ 8 = 282429536481 := by decide
  unfold tkw
  omega
/-- what holds while a rule is read -/
def frs (h : xh_H) : List Nat → Prop
  | [] => True
  | t :: fs => xg 0 h.2.1 47 fs.length = nI t ∧ t ≤ 2 ∧ frs h fs
theorem frs_c {h h' : xh_H} : ∀ {fs : List Nat}, (∀ k, k < fs.length → xg 0 h'.2.1 47 k = xg 0 h.2.1 47 k) → frs h fs → frs h' fs := by
  intro fs
  induction fs with
  | nil => intro _ _; trivial
  | cons t fs ih =>
    intro e g
    refine ⟨by rw [e _ (by show fs.length < fs.length + 1; omega)]; exact g.1, g.2.1, ih (fun k hk' => e k (by show k < fs.length + 1; omega)) g.2.2⟩
def nms (h : xh_H) (nn : Nat) (NW : Nat → Nat) : Prop := xg 0 h.2.1 39 26 = nI nn ∧ nn ≤ 16 ∧ ∀ k, k < nn → NW k < 282429536481 ∧ xg 0 h.2.2.1 50 k = Int64.ofNat (NW k)
def rr (h : xh_H) (T : Nat → Nat) (n mem nn : Nat) (NW : Nat → Nat) (p o : Nat) (fs : List Nat) : Prop := rtp h T n ∧ rtk h T n p ∧ xg 0 h.2.1 39 4 = nI mem ∧ mem ≤ 12 ∧ nms h nn NW ∧ xg 0 h.2.1 39 27 = nI o ∧ o ≤ 120 ∧ xg 0 h.2.1 39 28 = nI (fs.length - 1) ∧ 1 ≤ fs.length ∧ fs.length ≤ 13 ∧ frs h fs ∧ xg 0 h.2.1 39 13 = nI 0
def rS (c k : Nat) : Bool := (Nat.beq c 39 && ((Nat.ble 7 k && Nat.ble k 14) || (Nat.ble 27 k && Nat.ble k 29))) || (Nat.beq c 41 || (Nat.beq c 42 || (Nat.beq c 45 || (Nat.beq c 46 || (Nat.beq c 47 || (Nat.beq c 48 || Nat.beq c 49))))))
def rT (c k : Nat) : Bool := rS c k || (Nat.beq c 39 && Nat.beq k 30)
theorem rS_t {c k : Nat} (h : rT c k = false) : rS c k = false := by
  unfold rT at h
  cases h1 : rS c k with
  | false => rfl
  | true => rw [h1] at h; cases h
def bS (c k : Nat) : Bool := Nat.beq c 39 && (Nat.beq k 13 || Nat.beq k 14)
def oS (t c k : Nat) : Bool := (Nat.beq c 39 && ((Nat.ble 7 k && Nat.ble k 12) || Nat.beq k 29)) || (Nat.beq c 41 || (Nat.beq c 42 || (Nat.beq c 45 || (Nat.beq c 46 || (Nat.beq c 48 || (Nat.beq c 49 || (Nat.beq c 47 && Nat.beq k t)))))))
theorem or_f {a b : Bool} (h : (a || b) = false) : a = false ∧ b = false := by cases a <;> cases b <;> simp_all
theorem gS_o {t c k : Nat} (h : oS t c k = false) : gS c k = false := by
  unfold oS at h
  unfold gS
  have h1 := (or_f h).1
  cases h2 : Nat.beq c 39 with
  | false => rfl
  | true => rw [h2] at h1; exact (or_f h1).1
theorem gS_r {c k : Nat} (h : rS c k = false) : gS c k = false := by
  unfold rS at h
  unfold gS
  have h1 := (or_f h).1
  cases h2 : Nat.beq c 39 with
  | false => rfl
  | true =>
    rw [h2] at h1
    have h3 := (or_f h1).1
    have h3 : (Nat.ble 7 k && Nat.ble k 14) = false := h3
    cases h4 : Nat.ble 7 k with
    | false => rfl
    | true =>
      rw [h4] at h3
      have h3 : Nat.ble k 14 = false := h3
      show Nat.ble k 12 = false
      rw [Bool.eq_false_iff] at h3 ⊢
      intro z
      exact h3 (Nat.ble_eq.mpr (by have := Nat.ble_eq.mp z; omega))
theorem bS_r {c k : Nat} (h : rS c k = false) : bS c k = false := by
  unfold rS at h
  unfold bS
  have h1 := (or_f h).1
  cases h2 : Nat.beq c 39 with
  | false => rfl
  | true =>
    rw [h2] at h1
    have h3 := (or_f h1).1
    show (Nat.beq k 13 || Nat.beq k 14) = false
    rw [Bool.eq_false_iff]
    intro z
    have h4 : k = 13 ∨ k = 14 := by
      cases z1 : Nat.beq k 13 with
      | true => exact Or.inl (Nat.eq_of_beq_eq_true z1)
      | false => rw [z1] at z; exact Or.inr (Nat.eq_of_beq_eq_true z)
    have h5 : (Nat.ble 7 k && Nat.ble k 14) = true := by
      rw [Nat.ble_eq.mpr (show 7 ≤ k by omega), Nat.ble_eq.mpr (show k ≤ 14 by omega)]
      rfl
    have h3 : (Nat.ble 7 k && Nat.ble k 14) = false := h3
    rw [h5] at h3
    cases h3
theorem oS_r {t c k : Nat} (h : rS c k = false) : oS t c k = false := by
  have hg := gS_r h
  unfold rS at h
  unfold oS
  obtain ⟨h1, h2⟩ := or_f h
  obtain ⟨h41, h2⟩ := or_f h2
  obtain ⟨h42, h2⟩ := or_f h2
  obtain ⟨h45, h2⟩ := or_f h2
  obtain ⟨h46, h2⟩ := or_f h2
  obtain ⟨h47, h2⟩ := or_f h2
  obtain ⟨h48, h49⟩ := or_f h2
  rw [h41, h42, h45, h46, h47, h48, h49]
  cases h5 : Nat.beq c 39 with
  | false => rfl
  | true =>
    rw [h5] at h1
    unfold gS at hg
    rw [h5] at hg
    have hg : (Nat.ble 7 k && Nat.ble k 12) = false := hg
    have h6 : (Nat.ble 27 k && Nat.ble k 29) = false := (or_f h1).2
    rw [hg]
    show ((false || Nat.beq k 29) || _) = false
    cases h7 : Nat.beq k 29 with
    | false => rfl
    | true =>
      rw [Nat.eq_of_beq_eq_true h7] at h6
      cases h6
set_option maxRecDepth 100000 in
set_option maxHeartbeats 4000000 in
theorem rsg_q {f n p c : Nat} {T : Nat → Nat} {h : xh_H} (hc4 : 40 ≤ c) (hc5 : c < 256) (hT : ∀ k, k < n → T k < 256) (rt : rtk h T n p) (hq : a_rq a_tb h) : xq f xi_X10_isSign xmi_X10_isSign 0 [(0, .ref 39), (1, .int (nI c))] [] h (fun v h' => h = h' ∧ v = some (.int (bl (decide (tkk T n p = c))))) := by
  have rb := (rkk_k (T := T) (n := n) (p := p)).1
  have k256 := tkk_lt (T := T) (n := n) (p := p) hT
  cases c1 : xe_c .ne (nI (rkk T n p)) (Int32.ofInt 4) with
  | true =>
    have z1 : (rkk T n p) ≠ 4 := nq_net (a := (rkk T n p)) (b := 4) (by omega) (by omega) c1
    have yc1 := mt (rk4 (T := T) (n := n) (p := p)).mpr z1
    refine xq_n 21 [] [] [.int (Int32.ofInt 0)] h [true] 7 hq rfl ⟨(show xe_c .ne (xg 0 h.2.1 39 9) (Int32.ofInt 4) = true by rw [show (xg 0 h.2.1 39 9) = (nI (rkk T n p)) from rt.2.1]; exact c1), trivial⟩ (fun hq => ?_)
    exact xq_ret rfl rfl rfl ⟨rfl, by rw [show decide (tkk T n p = c) = false from decide_eq_false (by omega)]; rfl⟩
  | false =>
    have z1 : (rkk T n p) = 4 := nq_nef (a := (rkk T n p)) (b := 4) (by omega) (by omega) c1
    have yc1 := (rk4 (T := T) (n := n) (p := p)).mp z1
    cases c2 : xe_c .ne (nI (tkk T n p)) (nI c) with
    | true =>
      have z2 : (tkk T n p) ≠ c := nq_net (a := (tkk T n p)) (b := c) (by omega) (by omega) c2
      refine xq_n 21 [] [] [.int (Int32.ofInt 0)] h [false, true] 11 hq rfl ⟨(show xe_c .ne (xg 0 h.2.1 39 9) (Int32.ofInt 4) = false by rw [show (xg 0 h.2.1 39 9) = (nI (rkk T n p)) from rt.2.1]; exact c1), (show xe_c .ne (xg 0 h.2.1 39 11) (nI c) = true by rw [show (xg 0 h.2.1 39 11) = (nI (tkk T n p)) from rt.2.2.2.2.1 (by omega)]; exact c2), trivial⟩ (fun hq => ?_)
      exact xq_ret rfl rfl rfl ⟨rfl, by rw [show decide (tkk T n p = c) = false from decide_eq_false (by omega)]; rfl⟩
    | false =>
      have z2 : (tkk T n p) = c := nq_nef (a := (tkk T n p)) (b := c) (by omega) (by omega) c2
      refine xq_n 21 [] [] [.int (Int32.ofInt 1)] h [false, false] 12 hq rfl ⟨(show xe_c .ne (xg 0 h.2.1 39 9) (Int32.ofInt 4) = false by rw [show (xg 0 h.2.1 39 9) = (nI (rkk T n p)) from rt.2.1]; exact c1), (show xe_c .ne (xg 0 h.2.1 39 11) (nI c) = false by rw [show (xg 0 h.2.1 39 11) = (nI (tkk T n p)) from rt.2.2.2.2.1 (by omega)]; exact c2), trivial⟩ (fun hq => ?_)
      exact xq_ret rfl rfl rfl ⟨rfl, by rw [show decide (tkk T n p = c) = true from decide_eq_true (by omega)]; rfl⟩
set_option maxRecDepth 100000 in
set_option maxHeartbeats 4000000 in
theorem rky_q {f n p W : Nat} {T : Nat → Nat} {h : xh_H} (hW : W < 282429536481) (hT : ∀ k, k < n → T k < 256) (rt : rtk h T n p) (hq : a_rq a_tb h) : xq f xi_X10_isKey xmi_X10_isKey 0 [(0, .ref 39), (1, .long (Int64.ofNat W))] [] h (fun v h' => h = h' ∧ v = some (.int (bl (decide (tkk T n p = 2 ∧ tkw T n p = W))))) := by
  have rb := (rkk_k (T := T) (n := n) (p := p)).1
  have k256 := tkk_lt (T := T) (n := n) (p := p) hT
  cases c1 : xe_c .ne (nI (rkk T n p)) (Int32.ofInt 2) with
  | true =>
    have z1 : (rkk T n p) ≠ 2 := nq_net (a := (rkk T n p)) (b := 2) (by omega) (by omega) c1
    have yc1 := mt (rk2 (T := T) (n := n) (p := p)).mpr z1
    refine xq_n 22 [] [] [.int (Int32.ofInt 0)] h [true] 7 hq rfl ⟨(show xe_c .ne (xg 0 h.2.1 39 9) (Int32.ofInt 2) = true by rw [show (xg 0 h.2.1 39 9) = (nI (rkk T n p)) from rt.2.1]; exact c1), trivial⟩ (fun hq => ?_)
    exact xq_ret rfl rfl rfl ⟨rfl, by rw [show decide (tkk T n p = 2 ∧ tkw T n p = W) = false from decide_eq_false (by omega)]; rfl⟩
  | false =>
    have z1 : (rkk T n p) = 2 := nq_nef (a := (rkk T n p)) (b := 2) (by omega) (by omega) c1
    have yc1 := (rk2 (T := T) (n := n) (p := p)).mp z1
    have wb := tkw_lt (T := T) (n := n) (p := p) yc1
    cases c2 : xe_c .ne (lg_cmp (Int64.ofNat (tkw T n p)) (Int64.ofNat W)) 0 with
    | true =>
      have z2 : (tkw T n p) ≠ W := fun y => xne_i c2 (lg0.mpr (by rw [y]))
      refine xq_n 22 [] [] [.int (Int32.ofInt 0)] h [false, true] 12 hq rfl ⟨(show xe_c .ne (xg 0 h.2.1 39 9) (Int32.ofInt 2) = false by rw [show (xg 0 h.2.1 39 9) = (nI (rkk T n p)) from rt.2.1]; exact c1), (show xe_c .ne (lg_cmp (xg 0 h.2.2.1 39 15) (Int64.ofNat W)) 0 = true by rw [show (xg 0 h.2.2.1 39 15) = (Int64.ofNat (tkw T n p)) from (rt.2.2.1 (by omega)).2]; exact c2), trivial⟩ (fun hq => ?_)
      exact xq_ret rfl rfl rfl ⟨rfl, by rw [show decide (tkk T n p = 2 ∧ tkw T n p = W) = false from decide_eq_false (by omega)]; rfl⟩
    | false =>
      have z2 : (tkw T n p) = W := i64_inj (by omega) (by omega) (lg0.mp (xne_j c2))
      refine xq_n 22 [] [] [.int (Int32.ofInt 1)] h [false, false] 13 hq rfl ⟨(show xe_c .ne (xg 0 h.2.1 39 9) (Int32.ofInt 2) = false by rw [show (xg 0 h.2.1 39 9) = (nI (rkk T n p)) from rt.2.1]; exact c1), (show xe_c .ne (lg_cmp (xg 0 h.2.2.1 39 15) (Int64.ofNat W)) 0 = false by rw [show (xg 0 h.2.2.1 39 15) = (Int64.ofNat (tkw T n p)) from (rt.2.2.1 (by omega)).2]; exact c2), trivial⟩ (fun hq => ?_)
      exact xq_ret rfl rfl rfl ⟨rfl, by rw [show decide (tkk T n p = 2 ∧ tkw T n p = W) = true from decide_eq_true (by omega)]; rfl⟩
set_option maxRecDepth 100000 in
set_option maxHeartbeats 4000000 in
theorem rw0_q {f n p : Nat} {T : Nat → Nat} {h : xh_H} (hT : ∀ k, k < n → T k < 256) (rt : rtk h T n p) (hq : a_rq a_tb h) : xq f xi_X10_isBody xmi_X10_isBody 0 [(0, .ref 39)] [] h (fun v h' => h = h' ∧ v = some (.int (bl (ky T n p 0)))) := by
  refine xq_n 10 [] [] [.int (Int32.ofInt 0), .int 121, .int 100, .int 111, .int 98, .ref 39] h [] 8 hq rfl trivial (fun _ => ?_)
  refine xq_run (Q1 := fun v h' => h = h' ∧ v = some (.long (Int64.ofNat 50434))) hq rfl rfl ?_ ?_
  · refine xq_n 81 [] [] [.long (((27 * (((27 * (((27 * ((98 : Int32).toInt64 - 96)) + (111 : Int32).toInt64) - 96)) + (100 : Int32).toInt64) - 96)) + (121 : Int32).toInt64) - 96)] h [false, false, true] 39 hq rfl ⟨by decide, by decide, by decide, trivial⟩ (fun _ => ?_)
    exact xq_ret rfl rfl rfl ⟨rfl, by decide +kernel⟩
  · rintro v h1 ⟨rfl, rfl⟩
    refine xq_run hq rfl rfl (rky_q (W := 50434) (by decide) hT rt hq) ?_
    rintro v h1 ⟨rfl, rfl⟩
    exact xq_ret rfl rfl rfl ⟨rfl, by unfold ky; rw [show sW 0 = 50434 by decide]⟩
set_option maxRecDepth 100000 in
set_option maxHeartbeats 4000000 in
theorem rw1_q {f n p : Nat} {T : Nat → Nat} {h : xh_H} (hT : ∀ k, k < n → T k < 256) (rt : rtk h T n p) (hq : a_rq a_tb h) : xq f xi_X10_isCarry xmi_X10_isCarry 0 [(0, .ref 39)] [] h (fun v h' => h = h' ∧ v = some (.int (bl (ky T n p 1)))) := by
  refine xq_n 11 [] [] [.int 121, .int 114, .int 114, .int 97, .int 99, .ref 39] h [] 8 hq rfl trivial (fun _ => ?_)
  refine xq_run (Q1 := fun v h' => h = h' ∧ v = some (.long (Int64.ofNat 1627639))) hq rfl rfl ?_ ?_
  · refine xq_n 81 [] [] [.long (((27 * (((27 * (((27 * (((27 * ((99 : Int32).toInt64 - 96)) + (97 : Int32).toInt64) - 96)) + (114 : Int32).toInt64) - 96)) + (114 : Int32).toInt64) - 96)) + (121 : Int32).toInt64) - 96)] h [false, false, false] 47 hq rfl ⟨by decide, by decide, by decide, trivial⟩ (fun _ => ?_)
    exact xq_ret rfl rfl rfl ⟨rfl, by decide +kernel⟩
  · rintro v h1 ⟨rfl, rfl⟩
    refine xq_run hq rfl rfl (rky_q (W := 1627639) (by decide) hT rt hq) ?_
    rintro v h1 ⟨rfl, rfl⟩
    exact xq_ret rfl rfl rfl ⟨rfl, by unfold ky; rw [show sW 1 = 1627639 by decide]⟩
set_option maxRecDepth 100000 in
set_option maxHeartbeats 4000000 in
theorem rw2_q {f n p : Nat} {T : Nat → Nat} {h : xh_H} (hT : ∀ k, k < n → T k < 256) (rt : rtk h T n p) (hq : a_rq a_tb h) : xq f xi_X10_isAnd xmi_X10_isAnd 0 [(0, .ref 39)] [] h (fun v h' => h = h' ∧ v = some (.int (bl (ky T n p 2)))) := by
  refine xq_n 9 [] [] [.int (Int32.ofInt 0), .int (Int32.ofInt 0), .int 100, .int 110, .int 97, .ref 39] h [] 8 hq rfl trivial (fun _ => ?_)
  refine xq_run (Q1 := fun v h' => h = h' ∧ v = some (.long (Int64.ofNat 1111))) hq rfl rfl ?_ ?_
  · refine xq_n 81 [] [] [.long (((27 * (((27 * ((97 : Int32).toInt64 - 96)) + (110 : Int32).toInt64) - 96)) + (100 : Int32).toInt64) - 96)] h [false, true, true] 30 hq rfl ⟨by decide, by decide, by decide, trivial⟩ (fun _ => ?_)
    exact xq_ret rfl rfl rfl ⟨rfl, by decide +kernel⟩
  · rintro v h1 ⟨rfl, rfl⟩
    refine xq_run hq rfl rfl (rky_q (W := 1111) (by decide) hT rt hq) ?_
    rintro v h1 ⟨rfl, rfl⟩
    exact xq_ret rfl rfl rfl ⟨rfl, by unfold ky; rw [show sW 2 = 1111 by decide]⟩
set_option maxRecDepth 100000 in
set_option maxHeartbeats 4000000 in
theorem rw3_q {f n p : Nat} {T : Nat → Nat} {h : xh_H} (hT : ∀ k, k < n → T k < 256) (rt : rtk h T n p) (hq : a_rq a_tb h) : xq f xi_X10_isOr xmi_X10_isOr 0 [(0, .ref 39)] [] h (fun v h' => h = h' ∧ v = some (.int (bl (ky T n p 3)))) := by
  refine xq_n 8 [] [] [.int (Int32.ofInt 0), .int (Int32.ofInt 0), .int (Int32.ofInt 0), .int 114, .int 111, .ref 39] h [] 8 hq rfl trivial (fun _ => ?_)
  refine xq_run (Q1 := fun v h' => h = h' ∧ v = some (.long (Int64.ofNat 423))) hq rfl rfl ?_ ?_
  · refine xq_n 81 [] [] [.long (((27 * ((111 : Int32).toInt64 - 96)) + (114 : Int32).toInt64) - 96)] h [true, true, true] 21 hq rfl ⟨by decide, by decide, by decide, trivial⟩ (fun _ => ?_)
    exact xq_ret rfl rfl rfl ⟨rfl, by decide +kernel⟩
  · rintro v h1 ⟨rfl, rfl⟩
    refine xq_run hq rfl rfl (rky_q (W := 423) (by decide) hT rt hq) ?_
    rintro v h1 ⟨rfl, rfl⟩
    exact xq_ret rfl rfl rfl ⟨rfl, by unfold ky; rw [show sW 3 = 423 by decide]⟩
set_option maxRecDepth 100000 in
set_option maxHeartbeats 4000000 in
theorem rw4_q {f n p : Nat} {T : Nat → Nat} {h : xh_H} (hT : ∀ k, k < n → T k < 256) (rt : rtk h T n p) (hq : a_rq a_tb h) : xq f xi_X10_isOf xmi_X10_isOf 0 [(0, .ref 39)] [] h (fun v h' => h = h' ∧ v = some (.int (bl (ky T n p 4)))) := by
  refine xq_n 8 [] [] [.int (Int32.ofInt 0), .int (Int32.ofInt 0), .int (Int32.ofInt 0), .int 102, .int 111, .ref 39] h [] 8 hq rfl trivial (fun _ => ?_)
  refine xq_run (Q1 := fun v h' => h = h' ∧ v = some (.long (Int64.ofNat 411))) hq rfl rfl ?_ ?_
  · refine xq_n 81 [] [] [.long (((27 * ((111 : Int32).toInt64 - 96)) + (102 : Int32).toInt64) - 96)] h [true, true, true] 21 hq rfl ⟨by decide, by decide, by decide, trivial⟩ (fun _ => ?_)
    exact xq_ret rfl rfl rfl ⟨rfl, by decide +kernel⟩
  · rintro v h1 ⟨rfl, rfl⟩
    refine xq_run hq rfl rfl (rky_q (W := 411) (by decide) hT rt hq) ?_
    rintro v h1 ⟨rfl, rfl⟩
    exact xq_ret rfl rfl rfl ⟨rfl, by unfold ky; rw [show sW 4 = 411 by decide]⟩
theorem nmt_k0 {T : Nat → Nat} {n p : Nat} (h : ky T n p 0 = true) : nmt T n p = false := by
  have h1 := (of_decide_eq_true h).2
  unfold nmt
  rw [h1]
  exact decide_eq_false (fun ⟨_, _, a, _⟩ => a rfl)
theorem nmt_k1 {T : Nat → Nat} {n p : Nat} (h : ky T n p 1 = true) : nmt T n p = false := by
  have h1 := (of_decide_eq_true h).2
  unfold nmt
  rw [h1]
  exact decide_eq_false (fun ⟨_, _, _, a, _⟩ => a rfl)
theorem nmt_k2 {T : Nat → Nat} {n p : Nat} (h : ky T n p 2 = true) : nmt T n p = false := by
  have h1 := (of_decide_eq_true h).2
  unfold nmt
  rw [h1]
  exact decide_eq_false (fun ⟨_, _, _, _, a, _⟩ => a rfl)
theorem nmt_k3 {T : Nat → Nat} {n p : Nat} (h : ky T n p 3 = true) : nmt T n p = false := by
  have h1 := (of_decide_eq_true h).2
  unfold nmt
  rw [h1]
  exact decide_eq_false (fun ⟨_, _, _, _, _, a, _⟩ => a rfl)
theorem nmt_k4 {T : Nat → Nat} {n p : Nat} (h : ky T n p 4 = true) : nmt T n p = false := by
  have h1 := (of_decide_eq_true h).2
  unfold nmt
  rw [h1]
  exact decide_eq_false (fun ⟨_, _, _, _, _, _, a⟩ => a rfl)
set_option maxRecDepth 100000 in
set_option maxHeartbeats 4000000 in
theorem rnm_q {f n p : Nat} {T : Nat → Nat} {h : xh_H} (hT : ∀ k, k < n → T k < 256) (rt : rtk h T n p) (hq : a_rq a_tb h) : xq f xi_X10_isName xmi_X10_isName 0 [(0, .ref 39)] [] h (fun v h' => h = h' ∧ v = some (.int (bl (nmt T n p)))) := by
  have rb := (rkk_k (T := T) (n := n) (p := p)).1
  have k256 := tkk_lt (T := T) (n := n) (p := p) hT
  cases c1 : xe_c .ne (nI (rkk T n p)) (Int32.ofInt 2) with
  | true =>
    have z1 : (rkk T n p) ≠ 2 := nq_net (a := (rkk T n p)) (b := 2) (by omega) (by omega) c1
    have yc1 := mt (rk2 (T := T) (n := n) (p := p)).mpr z1
    refine xq_n 56 [] [] [.int (Int32.ofInt 0)] h [true] 7 hq rfl ⟨(show xe_c .ne (xg 0 h.2.1 39 9) (Int32.ofInt 2) = true by rw [show (xg 0 h.2.1 39 9) = (nI (rkk T n p)) from rt.2.1]; exact c1), trivial⟩ (fun hq => ?_)
    exact xq_ret rfl rfl rfl ⟨rfl, by rw [show nmt T n p = false from decide_eq_false (fun y => yc1 y.1)]; rfl⟩
  | false =>
    have z1 : (rkk T n p) = 2 := nq_nef (a := (rkk T n p)) (b := 2) (by omega) (by omega) c1
    have yc1 := (rk2 (T := T) (n := n) (p := p)).mp z1
    have gt := (tk2 (T := T) (n := n) (p := p) yc1).2.1
    cases c2 : xe_c .le (nI (tke T n p - tks T n p)) (Int32.ofInt 1) with
    | true =>
      have z2 : (tke T n p - tks T n p) ≤ 1 := nq_let (a := (tke T n p - tks T n p)) (b := 1) (by omega) (by omega) c2
      refine xq_n 56 [] [] [.int (Int32.ofInt 0)] h [false, true] 11 hq rfl ⟨(show xe_c .ne (xg 0 h.2.1 39 9) (Int32.ofInt 2) = false by rw [show (xg 0 h.2.1 39 9) = (nI (rkk T n p)) from rt.2.1]; exact c1), (show xe_c .le (xg 0 h.2.1 39 12) (Int32.ofInt 1) = true by rw [show (xg 0 h.2.1 39 12) = (nI (tke T n p - tks T n p)) from (rt.2.2.1 (by omega)).1]; exact c2), trivial⟩ (fun hq => ?_)
      exact xq_ret rfl rfl rfl ⟨rfl, by rw [show nmt T n p = false from decide_eq_false (fun y => Nat.not_le.mpr (Nat.lt_succ_of_le z2) y.2.1)]; rfl⟩
    | false =>
      have z2 : (tke T n p - tks T n p) > 1 := nq_lef (a := (tke T n p - tks T n p)) (b := 1) (by omega) (by omega) c2
      refine xq_n 17 [0] [(0, .ref 39)] [.ref 39] h [false, false] 11 hq rfl ⟨(show xe_c .ne (xg 0 h.2.1 39 9) (Int32.ofInt 2) = false by rw [show (xg 0 h.2.1 39 9) = (nI (rkk T n p)) from rt.2.1]; exact c1), (show xe_c .le (xg 0 h.2.1 39 12) (Int32.ofInt 1) = false by rw [show (xg 0 h.2.1 39 12) = (nI (tke T n p - tks T n p)) from (rt.2.2.1 (by omega)).1]; exact c2), trivial⟩ (fun hq => ?_)
      refine xq_run hq rfl rfl (rw0_q hT rt hq) ?_
      rintro v3 h_v3 ⟨rfl, rfl⟩
      cases b4 : (ky T n p 0) with
      | true =>
        have db4 := of_decide_eq_true b4
        refine xq_n 56 [] [] [.int (Int32.ofInt 0)] h [true] 4 hq rfl ⟨rfl, trivial⟩ (fun hq => ?_)
        exact xq_ret rfl rfl rfl ⟨rfl, by rw [nmt_k0 b4]; rfl⟩
      | false =>
        have db4 := of_decide_eq_false b4
        refine xq_n 24 [0] [(0, .ref 39)] [.ref 39] h [false] 4 hq rfl ⟨rfl, trivial⟩ (fun hq => ?_)
        refine xq_run hq rfl rfl (rw1_q hT rt hq) ?_
        rintro v5 h_v5 ⟨rfl, rfl⟩
        cases b6 : (ky T n p 1) with
        | true =>
          have db6 := of_decide_eq_true b6
          refine xq_n 56 [] [] [.int (Int32.ofInt 0)] h [true] 4 hq rfl ⟨rfl, trivial⟩ (fun hq => ?_)
          exact xq_ret rfl rfl rfl ⟨rfl, by rw [nmt_k1 b6]; rfl⟩
        | false =>
          have db6 := of_decide_eq_false b6
          refine xq_n 31 [0] [(0, .ref 39)] [.ref 39] h [false] 4 hq rfl ⟨rfl, trivial⟩ (fun hq => ?_)
          refine xq_run hq rfl rfl (rw2_q hT rt hq) ?_
          rintro v7 h_v7 ⟨rfl, rfl⟩
          cases b8 : (ky T n p 2) with
          | true =>
            have db8 := of_decide_eq_true b8
            refine xq_n 56 [] [] [.int (Int32.ofInt 0)] h [true] 4 hq rfl ⟨rfl, trivial⟩ (fun hq => ?_)
            exact xq_ret rfl rfl rfl ⟨rfl, by rw [nmt_k2 b8]; rfl⟩
          | false =>
            have db8 := of_decide_eq_false b8
            refine xq_n 38 [0] [(0, .ref 39)] [.ref 39] h [false] 4 hq rfl ⟨rfl, trivial⟩ (fun hq => ?_)
            refine xq_run hq rfl rfl (rw3_q hT rt hq) ?_
            rintro v9 h_v9 ⟨rfl, rfl⟩
            cases b10 : (ky T n p 3) with
            | true =>
              have db10 := of_decide_eq_true b10
              refine xq_n 56 [] [] [.int (Int32.ofInt 0)] h [true] 4 hq rfl ⟨rfl, trivial⟩ (fun hq => ?_)
              exact xq_ret rfl rfl rfl ⟨rfl, by rw [nmt_k3 b10]; rfl⟩
            | false =>
              have db10 := of_decide_eq_false b10
              refine xq_n 45 [0] [(0, .ref 39)] [.ref 39] h [false] 4 hq rfl ⟨rfl, trivial⟩ (fun hq => ?_)
              refine xq_run hq rfl rfl (rw4_q hT rt hq) ?_
              rintro v11 h_v11 ⟨rfl, rfl⟩
              cases b12 : (ky T n p 4) with
              | true =>
                have db12 := of_decide_eq_true b12
                refine xq_n 56 [] [] [.int (Int32.ofInt 0)] h [true] 4 hq rfl ⟨rfl, trivial⟩ (fun hq => ?_)
                exact xq_ret rfl rfl rfl ⟨rfl, by rw [nmt_k4 b12]; rfl⟩
              | false =>
                have db12 := of_decide_eq_false b12
                refine xq_n 56 [] [] [.int (Int32.ofInt 1)] h [false] 5 hq rfl ⟨rfl, trivial⟩ (fun hq => ?_)
                exact xq_ret rfl rfl rfl ⟨rfl, by rw [show nmt T n p = true from decide_eq_true ⟨yc1, z2, fun e => db4 ⟨yc1, e⟩, fun e => db6 ⟨yc1, e⟩, fun e => db8 ⟨yc1, e⟩, fun e => db10 ⟨yc1, e⟩, fun e => db12 ⟨yc1, e⟩⟩]; rfl⟩
def nh_Q (h : xh_H) (nn : Nat) (NW : Nat → Nat) (w : Nat) (v : Option Value) (h' : xh_H) : Prop := h = h' ∧ ((v = some (.int (Int32.ofInt (-1))) ∧ hasn nn NW w = false) ∨ ∃ k, k < nn ∧ v = some (.int (nI k)) ∧ NW k = w ∧ hasn nn NW w = true)
set_option maxRecDepth 100000 in
set_option maxHeartbeats 4000000 in
theorem nh_lp {nn w : Nat} {NW : Nat → Nat} {h : xh_H} (nm : nms h nn NW) (e15 : xg 0 h.2.2.1 39 15 = Int64.ofNat w) (hw : w < 282429536481) : ∀ (f k : Nat), a_rq a_tb h → k ≤ nn → (∀ j, j < k → NW j ≠ w) → xq f xi_X10_nameAtHand xmi_X10_nameAtHand 2 [(0, .ref 39), (1, .int (nI k))] [] h (nh_Q h nn NW w) := by
  have n16 := nm.2.1
  intro f
  induction f with
  | zero => intros; exact xq_0
  | succ f ih =>
    intro k hq hk' ha
    cases c1 : xe_c .ge (nI k) (nI nn) with
    | true =>
      have z1 : k ≥ nn := nq_get (a := k) (b := nn) (by omega) (by omega) c1
      refine xq_m 33 [] [] [.int (Int32.ofInt (-1))] h [true] 7 hq rfl ⟨(show xe_c .ge (nI k) (xg 0 h.2.1 39 26) = true by rw [show (xg 0 h.2.1 39 26) = (nI nn) from nm.1]; exact c1), trivial⟩ (fun hq => ?_)
      exact xq_ret rfl rfl rfl ⟨rfl, Or.inl ⟨rfl, decide_eq_false (fun ⟨j, y1, y2⟩ => ha j (by omega) y2)⟩⟩
    | false =>
      have z1 : k < nn := nq_gef (a := k) (b := nn) (by omega) (by omega) c1
      have nwk := (nm.2.2 k (by omega)).1
      cases c2 : xe_c .ne (lg_cmp (Int64.ofNat (NW k)) (Int64.ofNat w)) 0 with
      | true =>
        have z2 : (NW k) ≠ w := fun y => xne_i c2 (lg0.mpr (by rw [y]))
        refine xq_m 2 [0, 1] [(0, .ref 39), (1, .int ((nI k) + Int32.ofInt 1))] [] h [false, true] 16 hq rfl ⟨(show xe_c .ge (nI k) (xg 0 h.2.1 39 26) = false by rw [show (xg 0 h.2.1 39 26) = (nI nn) from nm.1]; exact c1), (show xe_c .ne (lg_cmp (xg 0 h.2.2.1 50 ((nI k).toNatClampNeg)) (xg 0 h.2.2.1 39 15)) 0 = true by rw [show (xg 0 h.2.2.1 50 ((nI k).toNatClampNeg)) = (Int64.ofNat (NW k)) from (by rw [show ((nI k).toNatClampNeg) = k from nI_clamp (by omega)]; exact (nm.2.2 _ (by omega)).2), show (xg 0 h.2.2.1 39 15) = (Int64.ofNat w) from e15]; exact c2), trivial⟩ (fun hq => ?_)
        rw [show ((nI k) + Int32.ofInt 1) = nI (k + 1) from nI_1 _]
        exact ih (k + 1) hq (by omega) (fun j hj => by
          by_cases ek : j = k
          · rw [ek]; exact z2
          · exact ha j (by omega))
      | false =>
        have z2 : (NW k) = w := i64_inj (by omega) (by omega) (lg0.mp (xne_j c2))
        refine xq_m 25 [] [] [.int (nI k)] h [false, false] 15 hq rfl ⟨(show xe_c .ge (nI k) (xg 0 h.2.1 39 26) = false by rw [show (xg 0 h.2.1 39 26) = (nI nn) from nm.1]; exact c1), (show xe_c .ne (lg_cmp (xg 0 h.2.2.1 50 ((nI k).toNatClampNeg)) (xg 0 h.2.2.1 39 15)) 0 = false by rw [show (xg 0 h.2.2.1 50 ((nI k).toNatClampNeg)) = (Int64.ofNat (NW k)) from (by rw [show ((nI k).toNatClampNeg) = k from nI_clamp (by omega)]; exact (nm.2.2 _ (by omega)).2), show (xg 0 h.2.2.1 39 15) = (Int64.ofNat w) from e15]; exact c2), trivial⟩ (fun hq => ?_)
        exact xq_ret rfl rfl rfl ⟨rfl, Or.inr ⟨k, by omega, rfl, z2, decide_eq_true ⟨k, by omega, z2⟩⟩⟩
set_option maxRecDepth 100000 in
set_option maxHeartbeats 4000000 in
theorem nh_q {f nn w : Nat} {NW : Nat → Nat} {h : xh_H} (nm : nms h nn NW) (e15 : xg 0 h.2.2.1 39 15 = Int64.ofNat w) (hw : w < 282429536481) (hq : a_rq a_tb h) : xq f xi_X10_nameAtHand xmi_X10_nameAtHand 0 [(0, .ref 39)] [] h (nh_Q h nn NW w) := by
  refine xq_n 2 [0, 1] [(0, .ref 39), (1, .int (Int32.ofInt 0))] [] h [] 4 hq rfl trivial (fun hq => ?_)
  exact nh_lp nm e15 hw f 0 hq (Nat.zero_le _) (fun j hj => absurd hj (Nat.not_lt_zero j))
def bd_Q (h : xh_H) (k pl : Nat) (v : Option Value) (h' : xh_H) : Prop := v = some (.int 0) ∧ fx bS fN h h' ∧ xg 0 h'.2.1 39 13 = nI k ∧ xg 0 h'.2.1 39 14 = nI pl
set_option maxRecDepth 100000 in
set_option maxHeartbeats 4000000 in
theorem bad_q {f n p k : Nat} {T : Nat → Nat} {h : xh_H} (hT : ∀ k, k < n → T k < 256) (rt : rtk h T n p) (hq : a_rq a_tb h) : xq f xi_X10_bad xmi_X10_bad 0 [(0, .ref 39), (1, .int (nI k))] [] h (bd_Q h (if rkk T n p = 1 then 1 else k) (tks T n p)) := by
  have rb := (rkk_k (T := T) (n := n) (p := p)).1
  have k256 := tkk_lt (T := T) (n := n) (p := p) hT
  cases c1 : xe_c .ne (nI (rkk T n p)) (Int32.ofInt 1) with
  | true =>
    have z1 : (rkk T n p) ≠ 1 := nq_net (a := (rkk T n p)) (b := 1) (by omega) (by omega) c1
    have yc1 := mt (rk1 (T := T) (n := n) (p := p)).mpr z1
    refine xq_n 26 [] [] [.int (Int32.ofInt 0)] (xh_ui (xh_ui h 39 13 (nI k)) 39 14 (xg 0 (xh_ui h 39 13 (nI k)).2.1 39 8)) [true] 14 hq rfl ⟨(show xe_c .ne (xg 0 h.2.1 39 9) (Int32.ofInt 1) = true by rw [show (xg 0 h.2.1 39 9) = (nI (rkk T n p)) from rt.2.1]; exact c1), trivial⟩ (fun _ => ?_)
    rw [show (xg 0 (xh_ui h 39 13 (nI k)).2.1 39 8) = (nI (tks T n p)) from (gx_k (by decide)).trans (rt.1)]
    have hq : a_rq a_tb (xh_ui (xh_ui h 39 13 (nI k)) 39 14 (nI (tks T n p))) := a_rq_ui (a_rq_ui hq)
    exact xq_ret rfl rfl rfl ⟨rfl, fx_ui (fx_ui (fx_0) rfl) rfl, by rw [if_neg z1]; exact (gx_k (by decide)).trans (gx_s), gx_s⟩
  | false =>
    have z1 : (rkk T n p) = 1 := nq_nef (a := (rkk T n p)) (b := 1) (by omega) (by omega) c1
    have yc1 := (rk1 (T := T) (n := n) (p := p)).mp z1
    refine xq_n 26 [] [] [.int (Int32.ofInt 0)] (xh_ui (xh_ui h 39 13 (Int32.ofInt 1)) 39 14 (xg 0 (xh_ui h 39 13 (Int32.ofInt 1)).2.1 39 8)) [false] 15 hq rfl ⟨(show xe_c .ne (xg 0 h.2.1 39 9) (Int32.ofInt 1) = false by rw [show (xg 0 h.2.1 39 9) = (nI (rkk T n p)) from rt.2.1]; exact c1), trivial⟩ (fun _ => ?_)
    rw [show (xg 0 (xh_ui h 39 13 (Int32.ofInt 1)).2.1 39 8) = (nI (tks T n p)) from (gx_k (by decide)).trans (rt.1)]
    have hq : a_rq a_tb (xh_ui (xh_ui h 39 13 (Int32.ofInt 1)) 39 14 (nI (tks T n p))) := a_rq_ui (a_rq_ui hq)
    exact xq_ret rfl rfl rfl ⟨rfl, fx_ui (fx_ui (fx_0) rfl) rfl, by rw [if_pos z1]; exact (gx_k (by decide)).trans (gx_s), gx_s⟩
set_option maxRecDepth 100000 in
set_option maxHeartbeats 4000000 in
theorem badAt_q {f k pl : Nat} {h : xh_H} (hq : a_rq a_tb h) : xq f xi_X10_badAt xmi_X10_badAt 0 [(0, .ref 39), (1, .int (nI k)), (2, .int (nI pl))] [] h (bd_Q h k pl) := by
  refine xq_n 11 [] [] [.int (Int32.ofInt 0)] (xh_ui (xh_ui h 39 13 (nI k)) 39 14 (nI pl)) [] 9 hq rfl trivial (fun _ => ?_)
  have hq : a_rq a_tb (xh_ui (xh_ui h 39 13 (nI k)) 39 14 (nI pl)) := a_rq_ui (a_rq_ui hq)
  exact xq_ret rfl rfl rfl ⟨rfl, fx_ui (fx_ui (fx_0) rfl) rfl, (gx_k (by decide)).trans (gx_s), gx_s⟩
def op_q (t ty : Nat) (h : xh_H) (T : Nat → Nat) (n e : Nat) (v : Option Value) (h' : xh_H) : Prop := v = none ∧ fx (oS t) gL h h' ∧ rtk h' T n e ∧ xg 0 h'.2.1 47 t = nI ty ∧ xg 0 h'.2.1 39 29 = nI 1
set_option maxRecDepth 100000 in
set_option maxHeartbeats 4000000 in
theorem opr_lp {n e t ty : Nat} {T : Nat → Nat} {h0 : xh_H} (he : e ≤ n) : ∀ (f : Nat) (x : Int32) (h : xh_H), a_rq a_tb h → fx (oS t) gL h0 h → rtp h T n → xg 0 h.2.1 39 7 = nI e → xg 0 h.2.1 47 t = nI ty → xg 0 h.2.1 39 28 = nI t → xq f xi_X10_openRule xmi_X10_openRule 12 [(0, .ref 39), (2, .int x)] [] h (op_q t ty h0 T n e) := by
  intro f
  induction f with
  | zero => intros; exact xq_0
  | succ f ih =>
    intro x h hq g0 hc e7 e47 e28
    cases c1 : xe_c .ge x 4096 with
    | true =>
      refine xq_m 63 [0, 2] [(0, .ref 39), (2, .int x)] [.ref 39] (xh_ui h 39 29 (Int32.ofInt 1)) [true] 9 hq rfl ⟨c1, trivial⟩ (fun _ => ?_)
      have hq : a_rq a_tb (xh_ui h 39 29 (Int32.ofInt 1)) := a_rq_ui hq
      refine xq_run hq rfl rfl (go_q hq (rtp_f (S := oS t) (L := gL) hc (fx_ui (fx_0) rfl) rfl (fun _ => rfl)) ((gx_k (by decide)).trans (e7)) he) ?_
      rintro v2 h2 ⟨rfl, g2, r2⟩
      have hq := fx_q g2 hq
      exact xq_ret rfl rfl rfl ⟨rfl, fx_t (fx_ui (g0) rfl) (fx_w g2 (fun _ _ => gS_o) (fun _ _ z => z)), r2, (fx_i g2 rfl).trans ((gx_o (by decide)).trans (e47)), (fx_i g2 rfl).trans (gx_s)⟩
    | false =>
      refine xq_m 12 [0, 2] [(0, .ref 39), (2, .int (x + Int32.ofInt 1))] [] (xh_ui (xh_ui h 41 (((4096 * (xg 0 h.2.1 39 28)) + x).toNatClampNeg) (vp_nar .boolean (Int32.ofInt 0))) 42 (((4096 * (xg 0 (xh_ui h 41 (((4096 * (xg 0 h.2.1 39 28)) + x).toNatClampNeg) (vp_nar .boolean (Int32.ofInt 0))).2.1 39 28)) + x).toNatClampNeg) (vp_nar .boolean (Int32.ofInt 1))) [false] 27 hq rfl ⟨c1, trivial⟩ (fun _ => ?_)
      rw [show (xg 0 (xh_ui h 41 (((4096 * (xg 0 h.2.1 39 28)) + x).toNatClampNeg) (vp_nar .boolean (Int32.ofInt 0))).2.1 39 28) = (nI t) from (gx_o (by decide)).trans (e28)]
      rw [show (xg 0 h.2.1 39 28) = (nI t) from e28]
      have hq : a_rq a_tb (xh_ui (xh_ui h 41 (((4096 * (nI t)) + x).toNatClampNeg) (vp_nar .boolean (Int32.ofInt 0))) 42 (((4096 * (nI t)) + x).toNatClampNeg) (vp_nar .boolean (Int32.ofInt 1))) := a_rq_ui (a_rq_ui hq)
      exact ih _ _ hq (fx_ui (fx_ui (g0) rfl) rfl) (rtp_f (S := oS t) (L := gL) hc (fx_ui (fx_ui (fx_0) rfl) rfl) rfl (fun _ => rfl)) ((gx_o (by decide)).trans ((gx_o (by decide)).trans (e7))) ((gx_o (by decide)).trans ((gx_o (by decide)).trans (e47))) ((gx_o (by decide)).trans ((gx_o (by decide)).trans (e28)))
set_option maxRecDepth 100000 in
set_option maxHeartbeats 4000000 in
theorem opr_q {f n e t ty : Nat} {T : Nat → Nat} {h : xh_H} (t12 : t ≤ 12) (he : e ≤ n) (hq : a_rq a_tb h) (hc : rtp h T n) (e7 : xg 0 h.2.1 39 7 = nI e) (e28 : xg 0 h.2.1 39 28 = nI t) : xq f xi_X10_openRule xmi_X10_openRule 0 [(0, .ref 39), (1, .int (nI ty))] [] h (op_q t ty h T n e) := by
  have t47 : oS t 47 t = true := by unfold oS; rw [Nat.beq_refl t]; rfl
  refine xq_n 12 [0, 2] [(0, .ref 39), (2, .int (Int32.ofInt 0))] [] (xh_ui h 47 ((xg 0 h.2.1 39 28).toNatClampNeg) (nI ty)) [] 10 hq rfl trivial (fun _ => ?_)
  rw [show (xg 0 h.2.1 39 28) = (nI t) from e28]
  rw [show ((nI t).toNatClampNeg) = t from nI_clamp (by omega)]
  have hq : a_rq a_tb (xh_ui h 47 t (nI ty)) := a_rq_ui hq
  exact opr_lp he f _ _ hq (fx_ui (fx_0) t47) (rtp_f (S := oS t) (L := gL) hc (fx_ui (fx_0) t47) rfl (fun _ => rfl)) ((gx_o (by decide)).trans (e7)) (gx_s) ((gx_o (by decide)).trans (e28))
set_option maxRecDepth 100000 in
set_option maxHeartbeats 4000000 in
theorem opl_lp {n e t : Nat} {T : Nat → Nat} {h0 : xh_H} (he : e ≤ n) : ∀ (f : Nat) (x : Int32) (h : xh_H), a_rq a_tb h → fx (oS t) gL h0 h → rtp h T n → xg 0 h.2.1 39 7 = nI e → xg 0 h.2.1 47 t = nI 2 → xg 0 h.2.1 39 28 = nI t → xq f xi_X10_openList xmi_X10_openList 32 [(0, .ref 39), (2, .int x)] [] h (op_q t 2 h0 T n e) := by
  intro f
  induction f with
  | zero => intros; exact xq_0
  | succ f ih =>
    intro x h hq g0 hc e7 e47 e28
    cases c1 : xe_c .ge x 4096 with
    | true =>
      refine xq_m 67 [0, 2] [(0, .ref 39), (2, .int x)] [.ref 39] (xh_ui h 39 29 (Int32.ofInt 1)) [true] 9 hq rfl ⟨c1, trivial⟩ (fun _ => ?_)
      have hq : a_rq a_tb (xh_ui h 39 29 (Int32.ofInt 1)) := a_rq_ui hq
      refine xq_run hq rfl rfl (go_q hq (rtp_f (S := oS t) (L := gL) hc (fx_ui (fx_0) rfl) rfl (fun _ => rfl)) ((gx_k (by decide)).trans (e7)) he) ?_
      rintro v2 h2 ⟨rfl, g2, r2⟩
      have hq := fx_q g2 hq
      exact xq_ret rfl rfl rfl ⟨rfl, fx_t (fx_ui (g0) rfl) (fx_w g2 (fun _ _ => gS_o) (fun _ _ z => z)), r2, (fx_i g2 rfl).trans ((gx_o (by decide)).trans (e47)), (fx_i g2 rfl).trans (gx_s)⟩
    | false =>
      refine xq_m 32 [0, 2] [(0, .ref 39), (2, .int (x + Int32.ofInt 1))] [] (xh_ui h 46 (((4096 * (xg 0 h.2.1 39 28)) + x).toNatClampNeg) (Int32.ofInt 0)) [false] 17 hq rfl ⟨c1, trivial⟩ (fun _ => ?_)
      rw [show (xg 0 h.2.1 39 28) = (nI t) from e28]
      have hq : a_rq a_tb (xh_ui h 46 (((4096 * (nI t)) + x).toNatClampNeg) (Int32.ofInt 0)) := a_rq_ui hq
      exact ih _ _ hq (fx_ui (g0) rfl) (rtp_f (S := oS t) (L := gL) hc (fx_ui (fx_0) rfl) rfl (fun _ => rfl)) ((gx_o (by decide)).trans (e7)) ((gx_o (by decide)).trans (e47)) ((gx_o (by decide)).trans (e28))
set_option maxRecDepth 100000 in
set_option maxHeartbeats 4000000 in
theorem opl_q {f n e t a : Nat} {T : Nat → Nat} {h : xh_H} (t12 : t ≤ 12) (he : e ≤ n) (hq : a_rq a_tb h) (hc : rtp h T n) (e7 : xg 0 h.2.1 39 7 = nI e) (e28 : xg 0 h.2.1 39 28 = nI t) : xq f xi_X10_openList xmi_X10_openList 0 [(0, .ref 39), (1, .int (nI a))] [] h (op_q t 2 h T n e) := by
  have t47 : oS t 47 t = true := by unfold oS; rw [Nat.beq_refl t]; rfl
  refine xq_n 32 [0, 2] [(0, .ref 39), (2, .int (Int32.ofInt 0))] [] (xh_ui (xh_ui (xh_ui h 47 ((xg 0 h.2.1 39 28).toNatClampNeg) (Int32.ofInt 2)) 49 ((xg 0 (xh_ui h 47 ((xg 0 h.2.1 39 28).toNatClampNeg) (Int32.ofInt 2)).2.1 39 28).toNatClampNeg) (nI a)) 48 ((xg 0 (xh_ui (xh_ui h 47 ((xg 0 h.2.1 39 28).toNatClampNeg) (Int32.ofInt 2)) 49 ((xg 0 (xh_ui h 47 ((xg 0 h.2.1 39 28).toNatClampNeg) (Int32.ofInt 2)).2.1 39 28).toNatClampNeg) (nI a)).2.1 39 28).toNatClampNeg) (Int32.ofInt 1)) [] 22 hq rfl trivial (fun _ => ?_)
  rw [show (xg 0 (xh_ui (xh_ui h 47 ((xg 0 h.2.1 39 28).toNatClampNeg) (Int32.ofInt 2)) 49 ((xg 0 (xh_ui h 47 ((xg 0 h.2.1 39 28).toNatClampNeg) (Int32.ofInt 2)).2.1 39 28).toNatClampNeg) (nI a)).2.1 39 28) = (nI t) from (gx_o (by decide)).trans ((gx_o (by decide)).trans (e28))]
  rw [show (xg 0 (xh_ui h 47 ((xg 0 h.2.1 39 28).toNatClampNeg) (Int32.ofInt 2)).2.1 39 28) = (nI t) from (gx_o (by decide)).trans (e28)]
  rw [show (xg 0 h.2.1 39 28) = (nI t) from e28]
  rw [show ((nI t).toNatClampNeg) = t from nI_clamp (by omega)]
  have hq : a_rq a_tb (xh_ui (xh_ui (xh_ui h 47 t (Int32.ofInt 2)) 49 t (nI a)) 48 t (Int32.ofInt 1)) := a_rq_ui (a_rq_ui (a_rq_ui hq))
  exact opl_lp he f _ _ hq (fx_ui (fx_ui (fx_ui (fx_0) t47) rfl) rfl) (rtp_f (S := oS t) (L := gL) hc (fx_ui (fx_ui (fx_ui (fx_0) t47) rfl) rfl) rfl (fun _ => rfl)) ((gx_o (by decide)).trans ((gx_o (by decide)).trans ((gx_o (by decide)).trans (e7)))) ((gx_o (by decide)).trans ((gx_o (by decide)).trans (gx_s))) ((gx_o (by decide)).trans ((gx_o (by decide)).trans ((gx_o (by decide)).trans (e28))))
end XRF
