section XRW
variable {scr : Option (Nat × (Nat → Int32))} {d mid : Nat} {mi : xm_M} {pc : Nat} {lv : List (Nat × Value)} {st q : List Value} {h : xh_H} {c s : Nat} {o : Option Value × xh_H × Nat × Nat}
theorem xe_in_nI {k n : Nat} (h : k < n) (hn : n ≤ 1000000) : xe_in (nI k) n = true := by
  unfold xe_in
  rw [nI_clamp (by omega)]
  have h1 := nI_pos (n := k) (by omega)
  have h2 : Nat.ble (k + 1) n = true := Nat.ble_eq.mpr h
  simp [h1, h2]
/-- an array's element, at a place by name -/
theorem xR_ia {r : Nat × Nat × Nat × Nat × Nat} {v : Int32} {a n k : Nat} (hr : xC mid pc = some (.iaload, r)) (hs : h.1[a]? = some (1, n)) (hk : k < n) (hn : n ≤ 1000000) (hv : xg 0 h.2.1 a k = v) (kk : xR scr d mid mi (pc + 1, lv, .int v :: q, h, c, s) o) : xR scr d mid mi (pc, lv, .int (nI k) :: .ref a :: q, h, c, s) o := by
  refine xR_step hr rfl (o1 := (pc + 1, lv, .int v :: q, h, c, s)) ?_ kk
  simp [xe_2, xe_1, xp_ir, hs, xe_in_nI hk hn, nI_clamp (n := k) (by omega), hv]
theorem xR_ba {r : Nat × Nat × Nat × Nat × Nat} {v : Int32} {a n k : Nat} (hr : xC mid pc = some (.baload, r)) (hs : h.1[a]? = some (3, n)) (hk : k < n) (hn : n ≤ 1000000) (hv : xg 0 h.2.1 a k = v) (kk : xR scr d mid mi (pc + 1, lv, .int v :: q, h, c, s) o) : xR scr d mid mi (pc, lv, .int (nI k) :: .ref a :: q, h, c, s) o := by
  refine xR_step hr rfl (o1 := (pc + 1, lv, .int v :: q, h, c, s)) ?_ kk
  simp [xe_2, xe_1, xp_ir, hs, xe_in_nI hk hn, nI_clamp (n := k) (by omega), hv]
theorem xR_is {r : Nat × Nat × Nat × Nat × Nat} {v : Int32} {a n k : Nat} {h' : xh_H} (hr : xC mid pc = some (.iastore, r)) (hs : h.1[a]? = some (1, n)) (hk : k < n) (hn : n ≤ 1000000) (hv : xh_ui h a k v = h') (kk : xR scr d mid mi (pc + 1, lv, q, h', c, s) o) : xR scr d mid mi (pc, lv, .int v :: .int (nI k) :: .ref a :: q, h, c, s) o := by
  refine xR_step hr rfl (o1 := (pc + 1, lv, q, h', c, s)) ?_ kk
  simp [xe_2, xe_1, xp_iir, hs, xe_in_nI hk hn, nI_clamp (n := k) (by omega), hv]
theorem xc_geT {a b : Nat} (ha : a < 1000000) (hb : b < 1000000) (z : xe_c .ge (nI a) (nI b) = true) : b ≤ a := (nI_leI (by omega) (by omega)).mp (of_decide_eq_true z)
theorem xc_geF {a b : Nat} (ha : a < 1000000) (hb : b < 1000000) (z : xe_c .ge (nI a) (nI b) = false) : a < b := by
  have h := of_decide_eq_false z
  rw [nI_leI (by omega) (by omega)] at h
  omega
theorem xc_leT {a b : Nat} (ha : a < 1000000) (hb : b < 1000000) (z : xe_c .le (nI a) (nI b) = true) : a ≤ b := (nI_leI (by omega) (by omega)).mp (of_decide_eq_true z)
theorem xc_leF {a b : Nat} (ha : a < 1000000) (hb : b < 1000000) (z : xe_c .le (nI a) (nI b) = false) : b < a := by
  have h := of_decide_eq_false z
  rw [nI_leI (by omega) (by omega)] at h
  omega
theorem xc_lt0 {a : Nat} (ha : a < 1000000) (z : xe_c .lt (nI a) 0 = true) : False := nI_pos (n := a) (by omega) (of_decide_eq_true z)
theorem nI_mul (a b : Nat) : nI a * nI b = nI (a * b) := (Int32.ofNat_mul a b).symm
theorem mp_g (l : List Nat) (k : Nat) : (l.map nI).getD k 0 = nI (l.getD k 0) := by
  induction l generalizing k with
  | nil => rfl
  | cons a t ih =>
    cases k with
    | zero => rfl
    | succ k => exact ih k
theorem mp_s (l : List Nat) (k b : Nat) : xsr 0 (l.map nI) k (nI b) = (xsr 0 l k b).map nI := by
  induction k generalizing l with
  | zero => cases l <;> rfl
  | succ k ih =>
    cases l with
    | nil =>
      show (0 : Int32) :: xsr 0 ([].map nI) k (nI b) = nI 0 :: (xsr 0 [] k b).map nI
      rw [ih []]
      rfl
    | cons a t =>
      show nI a :: xsr 0 (t.map nI) k (nI b) = nI a :: (xsr 0 t k b).map nI
      rw [ih t]
theorem lt7_s {l : List Nat} (h : ∀ k, l.getD k 0 < 7) {a b : Nat} (hb : b < 7) : ∀ k, (xsr 0 l a b).getD k 0 < 7 := by
  intro k
  by_cases e : k = a
  · rw [e, xsr_s]; exact hb
  · rw [xsr_o 0 b a k l e]; exact h k
/-- the heap in the loop of rows: what changes there by name -/
def HR (b29 b31 b34 r39 od r67 : List Int32) : xh_H := ([(0, 9), (0, 8), (2, 640), (0, 4), (0, 3), (1, 400), (1, 400), (1, 64), (0, 6), (1, 16), (1, 16), (0, 7), (4, 64), (5, 8), (0, 2), (1, 924), (1, 924), (1, 12), (1, 14), (1, 12), (4, 13), (0, 5), (1, 12), (1, 12), (1, 12), (1, 12), (1, 12), (1, 12), (0, 0), (1, 7), (1, 84), (1, 7), (1, 7), (1, 7), (1, 896), (0, 1), (1, 60), (1, 60), (3, 60), (0, 10), (1, 640), (3, 53248), (3, 53248), (3, 65536), (3, 32768), (3, 4096), (1, 53248), (1, 13), (1, 13), (1, 13), (4, 16), (1, 8), (1, 8), (3, 4096), (1, 12), (1, 12), (1, 12), (1, 12), (1, 13), (1, 924), (1, 924), (3, 144), (1, 84), (3, 49), (3, 49), (1, 56), (1, 7), (1, 7), (1, 60), (1, 60), (3, 60), (4, 1)],
  [[0, 0, 0, 0, 0, 0, 0, 0, 0, 3, 0, 0], [0, 0], [], [], [0, 0, 0, 0], [], [], [], [], [], [], [-1], [], [], [0, 0, 0, 0, 0, 0, 0, 0], [], [], [], [], [], [], [0, -1, 0, 0, 0, 0, 0, 0, 0, 0, 0, 0, 0, 0, 0, 0], [-1, -1, -1, -1, -1, -1, -1, -1, -1, -1, -1, -1], [], [], [], [], [], [], b29, [0, 1, 2, 3, 4, 5, 6, 0, 1, 2, 3, 4, 5, 6, 0, 1, 2, 3, 4, 5, 6, 0, 1, 2, 3, 4, 5, 6, 0, 1, 2, 3, 4, 5, 6, 0, 1, 2, 3, 4, 5, 6, 0, 1, 2, 3, 4, 5, 6, 0, 1, 2, 3, 4, 5, 6, 0, 1, 2, 3, 4, 5, 6, 0, 1, 2, 3, 4, 5, 6, 0, 1, 2, 3, 4, 5, 6, 0, 1, 2, 3, 4, 5, 6], b31, [], [], b34, [0, 0, 0, 0], [], [], [], r39, [], [], [], [], [], [], [], [], [], [], [], [], [], [0, 0, 0, 0, 0, 0, 0, 1], [], [], [], [], [], [], [], [], [0, 1, 2, 3, 4, 5, 6, 0, 1, 2, 3, 4, 5, 6, 0, 1, 2, 3, 4, 5, 6, 0, 1, 2, 3, 4, 5, 6, 0, 1, 2, 3, 4, 5, 6, 0, 1, 2, 3, 4, 5, 6, 0, 1, 2, 3, 4, 5, 6, 0, 1, 2, 3, 4, 5, 6, 0, 1, 2, 3, 4, 5, 6, 0, 1, 2, 3, 4, 5, 6, 0, 1, 2, 3, 4, 5, 6, 0, 1, 2, 3, 4, 5, 6], [0, 1, 1, 1, 1, 1, 1, 0, 0, 1, 1, 1, 1, 1, 0, 0, 0, 1, 1, 1, 1, 0, 0, 0, 0, 1, 1, 1, 0, 0, 0, 0, 0, 1, 1, 0, 0, 0, 0, 0, 0, 1, 0, 0, 0, 0, 0, 0, 0], [0, 0, 0, 0, 0, 0, 0, 1, 0, 0, 0, 0, 0, 0, 1, 1, 0, 0, 0, 0, 0, 1, 1, 1, 0, 0, 0, 0, 1, 1, 1, 1, 0, 0, 0, 1, 1, 1, 1, 1, 0, 0, 1, 1, 1, 1, 1, 1, 0], [], od, r67, [], [], [], []],
  [[], [], [], [], [], [], [], [], [], [], [], [], [128, 0, 0, 0, 0, 0, 0, 0, 0, 0, 0, 0, 0, 0, 0, 0, 0, 0, 0, 0, 0, 0, 0, 0, 0, 0, 0, 0, 0, 0, 0, 0, 0, 0, 0, 0, 0, 0, 0, 0, 0, 0, 0, 0, 0, 0, 0, 0, 0, 0, 0, 0, 0, 0, 0, 0, 0, 0, 0, 0, 0, 0, 0, 0], [], [], [], [], [], [], [], [], [], [], [], [], [], [], [], [], [], [], [], [], [], [], [], [], [], [], [], [], [], [], [], [], [], [], [], [], [], [], [], [], [], [], [], [], [], [], [], [], [], [], [], [], [], [], [], [], [], [], []],
  [[some 1, some 3, some 11, some 13, some 14, some 21, some 28, some 35], [some 2], [], [some 4, some 8, some 9, some 10], [some 5, some 6, some 7], [], [], [], [some 1], [], [], [none, some 12], [], [], [some 15, some 16, some 17, some 18, some 19, some 20, some 11], [], [], [], [], [], [], [some 22, none, some 14, some 23, some 24, some 25, some 26, some 27, none, none, none, none, none, none, some 11], [], [], [], [], [], [], [some 29, none, some 30, some 31, some 32, some 33, some 34], [], [], [], [], [], [], [some 36, some 37, some 38], [], [], [], [none, some 40, none, none, none, none, none, none, none, none, none, none, none, none, none, none, some 41, some 42, some 43, some 44, some 45, some 46, some 47, some 48, some 49, some 50, none, none, none, none, none, some 51, some 52, none, some 53, none, none, none, some 54, some 55, some 56, some 57, some 58, some 59, some 60, some 61, none, none, none, none, none, none, none, some 62, some 63, some 64, some 65, some 66, some 67, none, some 68, some 69, some 70], [], [], [], [], [], [], [], [], [], [], [], [], [], [], [], [], [], [], [], [], [], [], [], [], [], [], [], [], [], [], [], []])
theorem HR_g (b29 b31 b34 r39 od r67 : List Int32) (k : Nat) : xg 0 (HR b29 b31 b34 r39 od r67).2.1 66 k = od.getD k 0 := rfl
theorem HR_gm (b29 b31 b34 r39 r67 : List Int32) (od : List Nat) (k : Nat) : xg 0 (HR b29 b31 b34 r39 (od.map nI) r67).2.1 66 k = nI (od.getD k 0) := mp_g od k
theorem HR_sm (b29 b31 b34 r39 r67 : List Int32) (od : List Nat) (k b : Nat) : xh_ui (HR b29 b31 b34 r39 (od.map nI) r67) 66 k (nI b) = HR b29 b31 b34 r39 ((xsr 0 od k b).map nI) r67 := by
  rw [← mp_s]
  rfl
theorem HR_b (b29 b31 b34 r39 od r67 : List Int32) : ∀ b, b < 7 → ∀ s, s < 7 → xg 0 (HR b29 b31 b34 r39 od r67).2.1 63 (7 * b + s) = (if b < s then 1 else 0) := by
  show ∀ b, b < 7 → ∀ s, s < 7 → ([0, 1, 1, 1, 1, 1, 1, 0, 0, 1, 1, 1, 1, 1, 0, 0, 0, 1, 1, 1, 1, 0, 0, 0, 0, 1, 1, 1, 0, 0, 0, 0, 0, 1, 1, 0, 0, 0, 0, 0, 0, 1, 0, 0, 0, 0, 0, 0, 0] : List Int32).getD (7 * b + s) 0 = (if b < s then 1 else 0)
  decide +kernel
set_option maxRecDepth 100000 in
set_option maxHeartbeats 8000000 in
theorem en_t (b29 b31 b34 r39 r67 : List Int32) (od : List Nat) (hod : ∀ k, od.getD k 0 < 7) (k s : Nat) (hk : k < 7) (hs : s < 7) (o : Option Value × xh_H × Nat × Nat) (kk : xR none 10 xi_X10_endOf xmi_X10_endOf (9, [(3, .int (nI (k + 1))), (2, .int (nI (if od.getD k 0 < s then od.getD k 0 else s))), (0, .ref 39), (1, .int 7)], [], HR b29 b31 b34 r39 (od.map nI) r67, 0, 0) o) : xR none 10 xi_X10_endOf xmi_X10_endOf (9, [(3, .int (nI k)), (2, .int (nI s)), (0, .ref 39), (1, .int 7)], [], HR b29 b31 b34 r39 (od.map nI) r67, 0, 0) o := by
  refine xR_u (stop := 11) 60 10 _ _ rfl ?_
  change xR none 10 xi_X10_endOf xmi_X10_endOf (11, [(3, .int (nI k)), (2, .int (nI s)), (0, .ref 39), (1, .int 7)], [.int 7, .int (nI k)], HR b29 b31 b34 r39 (od.map nI) r67, 0, 0) o
  refine xR_ic (x := (nI k)) (y := 7) rfl (fun z => absurd z (by intro z; have := xc_geT (a := k) (b := 7) (by omega) (by omega) z; omega)) (fun _ => ?_)
  change xR none 10 xi_X10_endOf xmi_X10_endOf (14, [(3, .int (nI k)), (2, .int (nI s)), (0, .ref 39), (1, .int 7)], [], HR b29 b31 b34 r39 (od.map nI) r67, 0, 0) o
  refine xR_u (stop := 25) 60 10 _ _ rfl ?_
  change xR none 10 xi_X10_endOf xmi_X10_endOf (25, [(3, .int (nI k)), (2, .int (nI s)), (0, .ref 39), (1, .int 7)], [.int (nI k), .ref 66, .int 7, .ref 63], HR b29 b31 b34 r39 (od.map nI) r67, 0, 0) o
  refine xR_ia (k := k) (v := (nI (od.getD k 0))) rfl rfl (by omega) (by decide) (HR_gm ..) ?_
  refine xR_u (stop := 29) 60 10 _ _ rfl ?_
  change xR none 10 xi_X10_endOf xmi_X10_endOf (29, [(3, .int (nI k)), (2, .int (nI s)), (0, .ref 39), (1, .int 7)], [.int ((7 * (nI (od.getD k 0))) + (nI s)), .ref 63], HR b29 b31 b34 r39 (od.map nI) r67, 0, 0) o
  rw [show (7 * nI (od.getD k 0) + nI s : Int32) = nI (7 * od.getD k 0 + s) from by rw [← nI_add, ← nI_mul]; rfl]
  have hb := hod k
  refine xR_ba (k := 7 * od.getD k 0 + s) (v := (if od.getD k 0 < s then 1 else 0)) rfl rfl (by omega) (by decide) (HR_b _ _ _ _ _ _ _ hb _ hs) ?_
  by_cases hz : od.getD k 0 < s
  · rw [if_pos hz] at kk ⊢
    refine xR_u (stop := 38) 60 10 _ _ rfl ?_
    change xR none 10 xi_X10_endOf xmi_X10_endOf (38, [(3, .int (nI k)), (2, .int (nI s)), (0, .ref 39), (1, .int 7)], [.int (nI k), .ref 66], HR b29 b31 b34 r39 (od.map nI) r67, 0, 0) o
    refine xR_ia (k := k) (v := (nI (od.getD k 0))) rfl rfl (by omega) (by decide) (HR_gm ..) ?_
    refine xR_u (stop := 9) 60 10 _ _ rfl ?_
    change xR none 10 xi_X10_endOf xmi_X10_endOf (9, [(3, .int ((nI k) + Int32.ofInt 1)), (2, .int (nI (od.getD k 0))), (0, .ref 39), (1, .int 7)], [], HR b29 b31 b34 r39 (od.map nI) r67, 0, 0) o
    rw [show nI k + Int32.ofInt 1 = nI (k + 1) from nI_1 k]
    exact kk
  · rw [if_neg hz] at kk ⊢
    refine xR_u (stop := 40) 60 10 _ _ rfl ?_
    refine xR_u (stop := 9) 60 10 _ _ rfl ?_
    change xR none 10 xi_X10_endOf xmi_X10_endOf (9, [(3, .int ((nI k) + Int32.ofInt 1)), (2, .int (nI s)), (0, .ref 39), (1, .int 7)], [], HR b29 b31 b34 r39 (od.map nI) r67, 0, 0) o
    rw [show nI k + Int32.ofInt 1 = nI (k + 1) from nI_1 k]
    exact kk
def en_m (a s : Nat) : Nat := if a < s then a else s
def en_f (od : List Nat) : Nat := en_m (od.getD 6 0) (en_m (od.getD 5 0) (en_m (od.getD 4 0) (en_m (od.getD 3 0) (en_m (od.getD 2 0) (en_m (od.getD 1 0) (od.getD 0 0))))))
theorem en_ml {a s : Nat} (ha : a < 7) (hs : s < 7) : en_m a s < 7 := by unfold en_m; split <;> assumption
set_option maxRecDepth 100000 in
set_option maxHeartbeats 8000000 in
theorem en_ok (b29 b31 b34 r39 r67 : List Int32) (od : List Nat) (hod : ∀ k, od.getD k 0 < 7) : xR none 10 xi_X10_endOf xmi_X10_endOf (0, [(0, .ref 39), (1, .int 7)], [], HR b29 b31 b34 r39 (od.map nI) r67, 0, 0) (some (.int (nI (en_f od))), HR b29 b31 b34 r39 (od.map nI) r67, 0, 0) := by
  refine xR_u (stop := 5) 60 10 _ _ rfl ?_
  change xR none 10 xi_X10_endOf xmi_X10_endOf (5, [(0, .ref 39), (1, .int 7)], [.int 0, .ref 66], HR b29 b31 b34 r39 (od.map nI) r67, 0, 0) (some (.int (nI (en_f od))), HR b29 b31 b34 r39 (od.map nI) r67, 0, 0)
  refine xR_ia (k := 0) (v := (nI (od.getD 0 0))) rfl rfl (by omega) (by decide) (HR_gm ..) ?_
  refine xR_u (stop := 9) 60 10 _ _ rfl ?_
  change xR none 10 xi_X10_endOf xmi_X10_endOf (9, [(3, .int 1), (2, .int (nI (od.getD 0 0))), (0, .ref 39), (1, .int 7)], [], HR b29 b31 b34 r39 (od.map nI) r67, 0, 0) (some (.int (nI (en_f od))), HR b29 b31 b34 r39 (od.map nI) r67, 0, 0)
  have h0 := hod 0
  have h1 := en_ml (hod 1) h0
  refine en_t b29 b31 b34 r39 r67 od hod 1 _ (by omega) h0 _ ?_
  have h2 := en_ml (hod 2) h1
  refine en_t b29 b31 b34 r39 r67 od hod 2 _ (by omega) h1 _ ?_
  have h3 := en_ml (hod 3) h2
  refine en_t b29 b31 b34 r39 r67 od hod 3 _ (by omega) h2 _ ?_
  have h4 := en_ml (hod 4) h3
  refine en_t b29 b31 b34 r39 r67 od hod 4 _ (by omega) h3 _ ?_
  have h5 := en_ml (hod 5) h4
  refine en_t b29 b31 b34 r39 r67 od hod 5 _ (by omega) h4 _ ?_
  have h6 := en_ml (hod 6) h5
  refine en_t b29 b31 b34 r39 r67 od hod 6 _ (by omega) h5 _ ?_
  change xR none 10 xi_X10_endOf xmi_X10_endOf (9, [(3, .int 7), (2, .int (nI (en_f od))), (0, .ref 39), (1, .int 7)], [], HR b29 b31 b34 r39 (od.map nI) r67, 0, 0) (some (.int (nI (en_f od))), HR b29 b31 b34 r39 (od.map nI) r67, 0, 0)
  exact ⟨20, rfl⟩
def g_iv (K : Nat) : Int32 := nI K + Int32.ofInt (-1)
def g_1 (od : List Nat) : Nat → Nat
  | 0 => 0
  | K + 1 => cond (Nat.ble (od.getD K 0) (od.getD (K + 1) 0)) (K + 1) (g_1 od K)
def g_2 (od : List Nat) (i : Nat) : Nat → Nat
  | 0 => 0
  | J + 1 => cond (Nat.ble (od.getD i 0) (od.getD (J + 1) 0)) (J + 1) (g_2 od i J)
def g_sw (od : List Nat) (a b : Nat) : List Nat := xsr 0 (xsr 0 od a (od.getD b 0)) b (od.getD a 0)
def g_4 : Nat → List Nat → Nat → Nat → List Nat
  | 0, od, _, _ => od
  | n + 1, od, a, b => cond (Nat.ble b a) od (g_4 n (g_sw od a b) (a + 1) (b - 1))
def g_n (od : List Nat) : Option (List Nat) := match g_1 od 6 with
  | 0 => none
  | i + 1 => some (g_4 6 (g_sw od i (g_2 od i 6)) (i + 1) 6)
set_option maxRecDepth 100000 in
set_option maxHeartbeats 8000000 in
theorem go_1 (b29 b31 b34 r39 r67 : List Int32) (od : List Nat) (hod : ∀ k, od.getD k 0 < 7) (o : Option Value × xh_H × Nat × Nat) : ∀ K, K ≤ 6 → xR none 10 xi_X10_goOn xmi_X10_goOn (29, [(1, .int (g_iv (g_1 od K))), (0, .ref 39)], [], HR b29 b31 b34 r39 (od.map nI) r67, 0, 0) o → xR none 10 xi_X10_goOn xmi_X10_goOn (2, [(1, .int (g_iv K)), (0, .ref 39)], [], HR b29 b31 b34 r39 (od.map nI) r67, 0, 0) o := by
  intro K
  induction K with
  | zero =>
    intro _ kk
    have e : g_iv 0 = -1 := by decide +kernel
    rw [show g_1 od 0 = 0 from rfl, e] at kk
    rw [e]
    refine xR_u (stop := 29) 60 10 _ _ rfl ?_
    change xR none 10 xi_X10_goOn xmi_X10_goOn (29, [(1, .int (-1)), (0, .ref 39)], [], HR b29 b31 b34 r39 (od.map nI) r67, 0, 0) o
    exact kk
  | succ K ih =>
    intro hK kk
    have e : g_iv (K + 1) = nI K := nI_dec K
    rw [e]
    refine xR_u (stop := 3) 60 10 _ _ rfl ?_
    change xR none 10 xi_X10_goOn xmi_X10_goOn (3, [(1, .int (nI K)), (0, .ref 39)], [.int (nI K)], HR b29 b31 b34 r39 (od.map nI) r67, 0, 0) o
    refine xR_if (x := (nI K)) rfl (fun z => absurd z (by intro z; exact xc_lt0 (a := K) (by omega) z)) (fun _ => ?_)
    change xR none 10 xi_X10_goOn xmi_X10_goOn (6, [(1, .int (nI K)), (0, .ref 39)], [], HR b29 b31 b34 r39 (od.map nI) r67, 0, 0) o
    refine xR_u (stop := 11) 60 10 _ _ rfl ?_
    change xR none 10 xi_X10_goOn xmi_X10_goOn (11, [(1, .int (nI K)), (0, .ref 39)], [.int (nI K), .ref 66], HR b29 b31 b34 r39 (od.map nI) r67, 0, 0) o
    refine xR_ia (k := K) (v := (nI (od.getD K 0))) rfl rfl (by omega) (by decide) (HR_gm ..) ?_
    refine xR_u (stop := 19) 60 10 _ _ rfl ?_
    change xR none 10 xi_X10_goOn xmi_X10_goOn (19, [(1, .int (nI K)), (0, .ref 39)], [.int ((nI K) + 1), .ref 66, .int (nI (od.getD K 0))], HR b29 b31 b34 r39 (od.map nI) r67, 0, 0) o
    rw [show nI K + 1 = nI (K + 1) from nI_1 K]
    refine xR_ia (k := (K + 1)) (v := (nI (od.getD (K + 1) 0))) rfl rfl (by omega) (by decide) (HR_gm ..) ?_
    have ha := hod K
    have hb := hod (K + 1)
    unfold g_1 at kk
    refine xR_ic (x := nI (od.getD K 0)) (y := nI (od.getD (K + 1) 0)) rfl (fun z => ?_) (fun z => ?_)
    · have z := xc_leT (by omega) (by omega) z
      rw [Nat.ble_eq.mpr z] at kk
      simp only [cond_true] at kk
      rw [e] at kk
      exact kk
    · have z := xc_leF (by omega) (by omega) z
      rw [show Nat.ble (od.getD K 0) (od.getD (K + 1) 0) = false from by rw [Bool.eq_false_iff]; intro q; have := Nat.ble_eq.mp q; omega] at kk
      simp only [cond_false] at kk
      change xR none 10 xi_X10_goOn xmi_X10_goOn (23, [(1, .int (nI K)), (0, .ref 39)], [], HR b29 b31 b34 r39 (od.map nI) r67, 0, 0) o
      refine xR_u (stop := 2) 60 10 _ _ rfl ?_
      change xR none 10 xi_X10_goOn xmi_X10_goOn (2, [(1, .int ((nI K) + Int32.ofInt (-1))), (0, .ref 39)], [], HR b29 b31 b34 r39 (od.map nI) r67, 0, 0) o
      exact ih (by omega) kk
set_option maxRecDepth 100000 in
set_option maxHeartbeats 8000000 in
theorem go_2 (b29 b31 b34 r39 r67 : List Int32) (od : List Nat) (hod : ∀ k, od.getD k 0 < 7) (i : Nat) (o : Option Value × xh_H × Nat × Nat) : ∀ J, J < 7 → i ≤ J → xR none 10 xi_X10_goOn xmi_X10_goOn (59, [(2, .int (nI (g_2 od i J))), (1, .int (nI i)), (0, .ref 39)], [], HR b29 b31 b34 r39 (od.map nI) r67, 0, 0) o → xR none 10 xi_X10_goOn xmi_X10_goOn (38, [(2, .int (nI J)), (1, .int (nI i)), (0, .ref 39)], [], HR b29 b31 b34 r39 (od.map nI) r67, 0, 0) o := by
  intro J
  induction J with
  | zero =>
    intro hJ hi kk
    have e : i = 0 := by omega
    refine xR_u (stop := 43) 60 10 _ _ rfl ?_
    change xR none 10 xi_X10_goOn xmi_X10_goOn (43, [(2, .int (nI 0)), (1, .int (nI i)), (0, .ref 39)], [.int (nI 0), .ref 66], HR b29 b31 b34 r39 (od.map nI) r67, 0, 0) o
    refine xR_ia (k := 0) (v := (nI (od.getD 0 0))) rfl rfl (by omega) (by decide) (HR_gm ..) ?_
    refine xR_u (stop := 49) 60 10 _ _ rfl ?_
    change xR none 10 xi_X10_goOn xmi_X10_goOn (49, [(2, .int (nI 0)), (1, .int (nI i)), (0, .ref 39)], [.int (nI i), .ref 66, .int (nI (od.getD 0 0))], HR b29 b31 b34 r39 (od.map nI) r67, 0, 0) o
    refine xR_ia (k := i) (v := (nI (od.getD i 0))) rfl rfl (by omega) (by decide) (HR_gm ..) ?_
    have ha := hod i
    have hb := hod 0
    refine xR_ic (x := nI (od.getD 0 0)) (y := nI (od.getD i 0)) rfl (fun z => ?_) (fun z => ?_)
    · exact kk
    · have z := xc_geF (by omega) (by omega) z
      rw [e] at z
      omega
  | succ J ih =>
    intro hJ hi kk
    refine xR_u (stop := 43) 60 10 _ _ rfl ?_
    change xR none 10 xi_X10_goOn xmi_X10_goOn (43, [(2, .int (nI (J + 1))), (1, .int (nI i)), (0, .ref 39)], [.int (nI (J + 1)), .ref 66], HR b29 b31 b34 r39 (od.map nI) r67, 0, 0) o
    refine xR_ia (k := (J + 1)) (v := (nI (od.getD (J + 1) 0))) rfl rfl (by omega) (by decide) (HR_gm ..) ?_
    refine xR_u (stop := 49) 60 10 _ _ rfl ?_
    change xR none 10 xi_X10_goOn xmi_X10_goOn (49, [(2, .int (nI (J + 1))), (1, .int (nI i)), (0, .ref 39)], [.int (nI i), .ref 66, .int (nI (od.getD (J + 1) 0))], HR b29 b31 b34 r39 (od.map nI) r67, 0, 0) o
    refine xR_ia (k := i) (v := (nI (od.getD i 0))) rfl rfl (by omega) (by decide) (HR_gm ..) ?_
    have ha := hod i
    have hb := hod (J + 1)
    refine xR_ic (x := nI (od.getD (J + 1) 0)) (y := nI (od.getD i 0)) rfl (fun z => ?_) (fun z => ?_)
    · have z := xc_geT (by omega) (by omega) z
      unfold g_2 at kk
      rw [Nat.ble_eq.mpr z] at kk
      exact kk
    · have z := xc_geF (by omega) (by omega) z
      unfold g_2 at kk
      rw [show Nat.ble (od.getD i 0) (od.getD (J + 1) 0) = false from by rw [Bool.eq_false_iff]; intro q; have := Nat.ble_eq.mp q; omega] at kk
      simp only [cond_false] at kk
      have hij : i ≠ J + 1 := by intro e; rw [e] at z; omega
      change xR none 10 xi_X10_goOn xmi_X10_goOn (53, [(2, .int (nI (J + 1))), (1, .int (nI i)), (0, .ref 39)], [], HR b29 b31 b34 r39 (od.map nI) r67, 0, 0) o
      refine xR_u (stop := 38) 60 10 _ _ rfl ?_
      change xR none 10 xi_X10_goOn xmi_X10_goOn (38, [(2, .int ((nI (J + 1)) + Int32.ofInt (-1))), (1, .int (nI i)), (0, .ref 39)], [], HR b29 b31 b34 r39 (od.map nI) r67, 0, 0) o
      rw [nI_dec J]
      exact ih (by omega) (by omega) kk
set_option maxRecDepth 100000 in
set_option maxHeartbeats 8000000 in
theorem go_3 (b29 b31 b34 r39 r67 : List Int32) (od : List Nat) (hod : ∀ k, od.getD k 0 < 7) (i j : Nat) (hi : i < 7) (hj : j < 7) (o : Option Value × xh_H × Nat × Nat) (kk : xR none 10 xi_X10_goOn xmi_X10_goOn (94, [(5, .int 6), (4, .int (nI (i + 1))), (3, .int (nI (od.getD i 0))), (2, .int (nI j)), (1, .int (nI i)), (0, .ref 39)], [], HR b29 b31 b34 r39 ((g_sw od i j).map nI) r67, 0, 0) o) : xR none 10 xi_X10_goOn xmi_X10_goOn (59, [(2, .int (nI j)), (1, .int (nI i)), (0, .ref 39)], [], HR b29 b31 b34 r39 (od.map nI) r67, 0, 0) o := by
  refine xR_u (stop := 64) 60 10 _ _ rfl ?_
  change xR none 10 xi_X10_goOn xmi_X10_goOn (64, [(2, .int (nI j)), (1, .int (nI i)), (0, .ref 39)], [.int (nI i), .ref 66], HR b29 b31 b34 r39 (od.map nI) r67, 0, 0) o
  refine xR_ia (k := i) (v := (nI (od.getD i 0))) rfl rfl (by omega) (by decide) (HR_gm ..) ?_
  refine xR_u (stop := 76) 60 10 _ _ rfl ?_
  change xR none 10 xi_X10_goOn xmi_X10_goOn (76, [(3, .int (nI (od.getD i 0))), (2, .int (nI j)), (1, .int (nI i)), (0, .ref 39)], [.int (nI j), .ref 66, .int (nI i), .ref 66], HR b29 b31 b34 r39 (od.map nI) r67, 0, 0) o
  refine xR_ia (k := j) (v := (nI (od.getD j 0))) rfl rfl (by omega) (by decide) (HR_gm ..) ?_
  refine xR_is (k := i) rfl rfl (by omega) (by decide) (HR_sm ..) ?_
  change xR none 10 xi_X10_goOn xmi_X10_goOn (78, [(3, .int (nI (od.getD i 0))), (2, .int (nI j)), (1, .int (nI i)), (0, .ref 39)], [], HR b29 b31 b34 r39 ((xsr 0 od i (od.getD j 0)).map nI) r67, 0, 0) o
  refine xR_u (stop := 84) 60 10 _ _ rfl ?_
  change xR none 10 xi_X10_goOn xmi_X10_goOn (84, [(3, .int (nI (od.getD i 0))), (2, .int (nI j)), (1, .int (nI i)), (0, .ref 39)], [.int (nI (od.getD i 0)), .int (nI j), .ref 66], HR b29 b31 b34 r39 ((xsr 0 od i (od.getD j 0)).map nI) r67, 0, 0) o
  refine xR_is (k := j) rfl rfl (by omega) (by decide) (HR_sm ..) ?_
  change xR none 10 xi_X10_goOn xmi_X10_goOn (85, [(3, .int (nI (od.getD i 0))), (2, .int (nI j)), (1, .int (nI i)), (0, .ref 39)], [], HR b29 b31 b34 r39 ((g_sw od i j).map nI) r67, 0, 0) o
  refine xR_u (stop := 94) 60 10 _ _ rfl ?_
  change xR none 10 xi_X10_goOn xmi_X10_goOn (94, [(5, .int 6), (4, .int ((nI i) + 1)), (3, .int (nI (od.getD i 0))), (2, .int (nI j)), (1, .int (nI i)), (0, .ref 39)], [], HR b29 b31 b34 r39 ((g_sw od i j).map nI) r67, 0, 0) o
  rw [show nI i + 1 = nI (i + 1) from nI_1 i]
  exact kk
theorem g_sw7 {od : List Nat} (hod : ∀ k, od.getD k 0 < 7) (a b : Nat) : ∀ k, (g_sw od a b).getD k 0 < 7 := lt7_s (lt7_s hod (hod b)) (hod a)
set_option maxRecDepth 100000 in
set_option maxHeartbeats 8000000 in
theorem go_4 (b29 b31 b34 r39 r67 : List Int32) (t1 t2 : Int32) : ∀ (n : Nat) (od : List Nat) (hod : ∀ k, od.getD k 0 < 7) (a b : Nat) (t3 : Int32), b ≤ a + n → a < 100 → b < 7 → xR none 10 xi_X10_goOn xmi_X10_goOn (94, [(5, .int (nI b)), (4, .int (nI a)), (3, .int t3), (2, .int t2), (1, .int t1), (0, .ref 39)], [], HR b29 b31 b34 r39 (od.map nI) r67, 0, 0) (some (.int 1), HR b29 b31 b34 r39 ((g_4 n od a b).map nI) r67, 0, 0) := by
  intro n
  induction n with
  | zero =>
    intro od hod a b t3 hn ha hb
    refine xR_u (stop := 98) 60 10 _ _ rfl ?_
    change xR none 10 xi_X10_goOn xmi_X10_goOn (98, [(5, .int (nI b)), (4, .int (nI a)), (3, .int t3), (2, .int t2), (1, .int t1), (0, .ref 39)], [.int (nI b), .int (nI a)], HR b29 b31 b34 r39 (od.map nI) r67, 0, 0) (some (.int 1), HR b29 b31 b34 r39 ((g_4 0 od a b).map nI) r67, 0, 0)
    refine xR_ic (x := (nI a)) (y := (nI b)) rfl (fun _ => ?_) (fun z => absurd z (by intro z; have := xc_geF (a := a) (b := b) (by omega) (by omega) z; omega))
    change xR none 10 xi_X10_goOn xmi_X10_goOn (140, [(5, .int (nI b)), (4, .int (nI a)), (3, .int t3), (2, .int t2), (1, .int t1), (0, .ref 39)], [], HR b29 b31 b34 r39 (od.map nI) r67, 0, 0) (some (.int 1), HR b29 b31 b34 r39 ((g_4 0 od a b).map nI) r67, 0, 0)
    exact ⟨5, rfl⟩
  | succ n ih =>
    intro od hod a b t3 hn ha hb
    refine xR_u (stop := 98) 60 10 _ _ rfl ?_
    change xR none 10 xi_X10_goOn xmi_X10_goOn (98, [(5, .int (nI b)), (4, .int (nI a)), (3, .int t3), (2, .int t2), (1, .int t1), (0, .ref 39)], [.int (nI b), .int (nI a)], HR b29 b31 b34 r39 (od.map nI) r67, 0, 0) _
    unfold g_4
    refine xR_ic (x := nI a) (y := nI b) rfl (fun z => ?_) (fun z => ?_)
    · have z := xc_geT (by omega) (by omega) z
      rw [Nat.ble_eq.mpr z]
      exact ⟨5, rfl⟩
    · have z := xc_geF (by omega) (by omega) z
      rw [show Nat.ble b a = false from by rw [Bool.eq_false_iff]; intro q; have := Nat.ble_eq.mp q; omega]
      simp only [cond_false]
      obtain ⟨b, rfl⟩ : ∃ b1, b = b1 + 1 := ⟨b - 1, by omega⟩
      change xR none 10 xi_X10_goOn xmi_X10_goOn (101, [(5, .int (nI (b + 1))), (4, .int (nI a)), (3, .int t3), (2, .int t2), (1, .int t1), (0, .ref 39)], [], HR b29 b31 b34 r39 (od.map nI) r67, 0, 0) _
      refine xR_u (stop := 107) 60 10 _ _ rfl ?_
      change xR none 10 xi_X10_goOn xmi_X10_goOn (107, [(5, .int (nI (b + 1))), (4, .int (nI a)), (3, .int t3), (2, .int t2), (1, .int t1), (0, .ref 39)], [.int (nI a), .ref 66], HR b29 b31 b34 r39 (od.map nI) r67, 0, 0) _
      refine xR_ia (k := a) (v := (nI (od.getD a 0))) rfl rfl (by omega) (by decide) (HR_gm ..) ?_
      refine xR_u (stop := 121) 60 10 _ _ rfl ?_
      change xR none 10 xi_X10_goOn xmi_X10_goOn (121, [(3, .int (nI (od.getD a 0))), (5, .int (nI (b + 1))), (4, .int (nI a)), (2, .int t2), (1, .int t1), (0, .ref 39)], [.int (nI (b + 1)), .ref 66, .int (nI a), .ref 66], HR b29 b31 b34 r39 (od.map nI) r67, 0, 0) _
      refine xR_ia (k := (b + 1)) (v := (nI (od.getD (b + 1) 0))) rfl rfl (by omega) (by decide) (HR_gm ..) ?_
      refine xR_is (k := a) rfl rfl (by omega) (by decide) (HR_sm ..) ?_
      change xR none 10 xi_X10_goOn xmi_X10_goOn (123, [(3, .int (nI (od.getD a 0))), (5, .int (nI (b + 1))), (4, .int (nI a)), (2, .int t2), (1, .int t1), (0, .ref 39)], [], HR b29 b31 b34 r39 ((xsr 0 od a (od.getD (b + 1) 0)).map nI) r67, 0, 0) _
      refine xR_u (stop := 130) 60 10 _ _ rfl ?_
      change xR none 10 xi_X10_goOn xmi_X10_goOn (130, [(3, .int (nI (od.getD a 0))), (5, .int (nI (b + 1))), (4, .int (nI a)), (2, .int t2), (1, .int t1), (0, .ref 39)], [.int (nI (od.getD a 0)), .int (nI (b + 1)), .ref 66], HR b29 b31 b34 r39 ((xsr 0 od a (od.getD (b + 1) 0)).map nI) r67, 0, 0) _
      refine xR_is (k := (b + 1)) rfl rfl (by omega) (by decide) (HR_sm ..) ?_
      change xR none 10 xi_X10_goOn xmi_X10_goOn (131, [(3, .int (nI (od.getD a 0))), (5, .int (nI (b + 1))), (4, .int (nI a)), (2, .int t2), (1, .int t1), (0, .ref 39)], [], HR b29 b31 b34 r39 ((g_sw od a (b + 1)).map nI) r67, 0, 0) _
      refine xR_u (stop := 94) 60 10 _ _ rfl ?_
      change xR none 10 xi_X10_goOn xmi_X10_goOn (94, [(5, .int ((nI (b + 1)) + Int32.ofInt (-1))), (4, .int ((nI a) + Int32.ofInt 1)), (3, .int (nI (od.getD a 0))), (2, .int t2), (1, .int t1), (0, .ref 39)], [], HR b29 b31 b34 r39 ((g_sw od a (b + 1)).map nI) r67, 0, 0) _
      rw [show nI a + Int32.ofInt 1 = nI (a + 1) from nI_1 a]
      rw [nI_dec b]
      exact ih (g_sw od a (b + 1)) (g_sw7 hod a (b + 1)) (a + 1) b _ (by omega) (by omega) (by omega)
theorem g_1l (od : List Nat) : ∀ K, g_1 od K ≤ K := by
  intro K
  induction K with
  | zero => exact Nat.le_refl 0
  | succ K ih =>
    unfold g_1
    cases Nat.ble (od.getD K 0) (od.getD (K + 1) 0) with
    | true => exact Nat.le_refl _
    | false => exact Nat.le_succ_of_le ih
theorem g_2l (od : List Nat) (i : Nat) : ∀ K, g_2 od i K ≤ K := by
  intro K
  induction K with
  | zero => exact Nat.le_refl 0
  | succ K ih =>
    unfold g_2
    cases Nat.ble (od.getD i 0) (od.getD (K + 1) 0) with
    | true => exact Nat.le_refl _
    | false => exact Nat.le_succ_of_le ih
set_option maxRecDepth 100000 in
set_option maxHeartbeats 8000000 in
theorem go_no (b29 b31 b34 r39 r67 : List Int32) (od : List Nat) (hod : ∀ k, od.getD k 0 < 7) (hn : g_1 od 6 = 0) : xR none 10 xi_X10_goOn xmi_X10_goOn (0, [(0, .ref 39)], [], HR b29 b31 b34 r39 (od.map nI) r67, 0, 0) (some (.int 0), HR b29 b31 b34 r39 (od.map nI) r67, 0, 0) := by
  refine xR_u (stop := 2) 60 10 _ _ rfl ?_
  change xR none 10 xi_X10_goOn xmi_X10_goOn (2, [(1, .int (g_iv 6)), (0, .ref 39)], [], HR b29 b31 b34 r39 (od.map nI) r67, 0, 0) _
  refine go_1 b29 b31 b34 r39 r67 od hod _ 6 (by omega) ?_
  rw [hn]
  exact ⟨10, rfl⟩
set_option maxRecDepth 100000 in
set_option maxHeartbeats 8000000 in
theorem go_yes (b29 b31 b34 r39 r67 : List Int32) (od : List Nat) (hod : ∀ k, od.getD k 0 < 7) (i : Nat) (hn : g_1 od 6 = i + 1) : xR none 10 xi_X10_goOn xmi_X10_goOn (0, [(0, .ref 39)], [], HR b29 b31 b34 r39 (od.map nI) r67, 0, 0) (some (.int 1), HR b29 b31 b34 r39 ((g_4 6 (g_sw od i (g_2 od i 6)) (i + 1) 6).map nI) r67, 0, 0) := by
  refine xR_u (stop := 2) 60 10 _ _ rfl ?_
  change xR none 10 xi_X10_goOn xmi_X10_goOn (2, [(1, .int (g_iv 6)), (0, .ref 39)], [], HR b29 b31 b34 r39 (od.map nI) r67, 0, 0) _
  refine go_1 b29 b31 b34 r39 r67 od hod _ 6 (by omega) ?_
  rw [hn, show g_iv (i + 1) = nI i from nI_dec i]
  have hl := g_1l od 6
  rw [hn] at hl
  have hj := g_2l od i 6
  change xR none 10 xi_X10_goOn xmi_X10_goOn (29, [(1, .int (nI i)), (0, .ref 39)], [], HR b29 b31 b34 r39 (od.map nI) r67, 0, 0) _
  refine xR_u (stop := 30) 60 10 _ _ rfl ?_
  change xR none 10 xi_X10_goOn xmi_X10_goOn (30, [(1, .int (nI i)), (0, .ref 39)], [.int (nI i)], HR b29 b31 b34 r39 (od.map nI) r67, 0, 0) _
  refine xR_if (x := (nI i)) rfl (fun _ => ?_) (fun z => absurd z (by intro z; have := xc_geF (a := i) (b := 0) (by omega) (by omega) z; omega))
  change xR none 10 xi_X10_goOn xmi_X10_goOn (35, [(1, .int (nI i)), (0, .ref 39)], [], HR b29 b31 b34 r39 (od.map nI) r67, 0, 0) _
  refine xR_u (stop := 38) 60 10 _ _ rfl ?_
  change xR none 10 xi_X10_goOn xmi_X10_goOn (38, [(2, .int 6), (1, .int (nI i)), (0, .ref 39)], [], HR b29 b31 b34 r39 (od.map nI) r67, 0, 0) _
  refine go_2 b29 b31 b34 r39 r67 od hod i _ 6 (by omega) (by omega) ?_
  refine go_3 b29 b31 b34 r39 r67 od hod i _ (by omega) (by omega) _ ?_
  exact go_4 b29 b31 b34 r39 r67 _ _ 6 _ (g_sw7 hod _ _) (i + 1) 6 _ (by omega) (by omega) (by omega)
end XRW
