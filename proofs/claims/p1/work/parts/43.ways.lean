section XRC
/-- the heap behind match: what countRows changes by name -/
def HC (b29 ws : List Int32) : xh_H := ([(0, 9), (0, 8), (2, 640), (0, 4), (0, 3), (1, 400), (1, 400), (1, 64), (0, 6), (1, 16), (1, 16), (0, 7), (4, 64), (5, 8), (0, 2), (1, 924), (1, 924), (1, 12), (1, 14), (1, 12), (4, 13), (0, 5), (1, 12), (1, 12), (1, 12), (1, 12), (1, 12), (1, 12), (0, 0), (1, 7), (1, 84), (1, 7), (1, 7), (1, 7), (1, 896), (0, 1), (1, 60), (1, 60), (3, 60), (0, 10), (1, 640), (3, 53248), (3, 53248), (3, 65536), (3, 32768), (3, 4096), (1, 53248), (1, 13), (1, 13), (1, 13), (4, 16), (1, 8), (1, 8), (3, 4096), (1, 12), (1, 12), (1, 12), (1, 12), (1, 13), (1, 924), (1, 924), (3, 144), (1, 84), (3, 49), (3, 49), (1, 56), (1, 7), (1, 7), (1, 60), (1, 60), (3, 60), (4, 1)],
  [[0, 0, 0, 0, 0, 0, 0, 0, 0, 3, 0, 0], [0, 0], [], [], [0, 0, 0, 0], [], [], [], [], [], [], [-1], [], [], [0, 0, 0, 0, 0, 0, 0, 0], [], [], [], [], [], [], [0, -1, 0, 0, 0, 0, 0, 0, 0, 0, 0, 0, 0, 0, 0, 0], [-1, -1, -1, -1, -1, -1, -1, -1, -1, -1, -1, -1], [], [], [], [], [], [], b29, [0, 1, 2, 3, 4, 5, 6, 0, 1, 2, 3, 4, 5, 6, 0, 1, 2, 3, 4, 5, 6, 0, 1, 2, 3, 4, 5, 6, 0, 1, 2, 3, 4, 5, 6, 0, 1, 2, 3, 4, 5, 6, 0, 1, 2, 3, 4, 5, 6, 0, 1, 2, 3, 4, 5, 6, 0, 1, 2, 3, 4, 5, 6, 0, 1, 2, 3, 4, 5, 6, 0, 1, 2, 3, 4, 5, 6, 0, 1, 2, 3, 4, 5, 6], [126, 124, 120, 112, 96, 64, 0], [], [], ws, [0, 0, 0, 0], [], [], [], [0, 0, 0, 0, 3], [], [], [], [], [], [], [], [], [], [], [], [], [], [], [], [], [], [], [], [], [], [], [0, 1, 2, 3, 4, 5, 6, 0, 1, 2, 3, 4, 5, 6, 0, 1, 2, 3, 4, 5, 6, 0, 1, 2, 3, 4, 5, 6, 0, 1, 2, 3, 4, 5, 6, 0, 1, 2, 3, 4, 5, 6, 0, 1, 2, 3, 4, 5, 6, 0, 1, 2, 3, 4, 5, 6, 0, 1, 2, 3, 4, 5, 6, 0, 1, 2, 3, 4, 5, 6, 0, 1, 2, 3, 4, 5, 6, 0, 1, 2, 3, 4, 5, 6], [], [], [], [], [], [], [], [], []],
  [[], [], [], [], [], [], [], [], [], [], [], [], [128, 0, 0, 0, 0, 0, 0, 0, 0, 0, 0, 0, 0, 0, 0, 0, 0, 0, 0, 0, 0, 0, 0, 0, 0, 0, 0, 0, 0, 0, 0, 0, 0, 0, 0, 0, 0, 0, 0, 0, 0, 0, 0, 0, 0, 0, 0, 0, 0, 0, 0, 0, 0, 0, 0, 0, 0, 0, 0, 0, 0, 0, 0, 0], [], [], [], [], [], [], [], [], [], [], [], [], [], [], [], [], [], [], [], [], [], [], [], [], [], [], [], [], [], [], [], [], [], [], [], [], [], [], [], [], [], [], [], [], [], [], [], [], [], [], [], [], [], [], [], [], [], [], []],
  [[some 1, some 3, some 11, some 13, some 14, some 21, some 28, some 35], [some 2], [], [some 4, some 8, some 9, some 10], [some 5, some 6, some 7], [], [], [], [some 1], [], [], [none, some 12], [], [], [some 15, some 16, some 17, some 18, some 19, some 20, some 11], [], [], [], [], [], [], [some 22, none, some 14, some 23, some 24, some 25, some 26, some 27, none, none, none, none, none, none, some 11], [], [], [], [], [], [], [some 29, none, some 30, some 31, some 32, some 33, some 34], [], [], [], [], [], [], [some 36, some 37, some 38], [], [], [], [none, some 40, none, none, none, none, none, none, none, none, none, none, none, none, none, none, some 41, some 42, some 43, some 44, some 45, some 46, some 47, some 48, some 49, some 50, none, none, none, none, none, some 51, some 52, none, some 53, none, none, none, some 54, some 55, some 56, some 57, some 58, some 59, some 60, some 61, none, none, none, none, none, none, none, some 62, some 63, some 64, some 65, some 66, some 67, none, some 68, some 69, some 70], [], [], [], [], [], [], [], [], [], [], [], [], [], [], [], [], [], [], [], [], [], [], [], [], [], [], [], [], [], [], [], []])
set_option maxRecDepth 100000 in
set_option maxHeartbeats 8000000 in
theorem cl_mt : xx_b (xe_x xM xC none 5706 10 xi_X0_match xmi_X0_match (0, lv_args 0 [.ref 28, .ref 11, .int 3], [], xf_h, 0, 0)) (none, HC [-1, -1, -1, -1, -1, -1, -1] [], 0, 0) = true := by decide +kernel
def q_b (u c : Nat) : Nat := u / 2 ^ c % 2
def q_m (u s : Nat) : Nat := cond (Nat.beq (q_b u 0) 0 || Nat.beq s 0) 0 (cond (Nat.beq (q_b u 1) 0 || Nat.beq s 1) 1 (cond (Nat.beq (q_b u 2) 0 || Nat.beq s 2) 2 (cond (Nat.beq (q_b u 3) 0 || Nat.beq s 3) 3 (cond (Nat.beq (q_b u 4) 0 || Nat.beq s 4) 4 (cond (Nat.beq (q_b u 5) 0 || Nat.beq s 5) 5 6)))))
def q_r (u : Nat) : Nat := q_b u 0 + q_b u 1 + q_b u 2 + q_b u 3 + q_b u 4 + q_b u 5 + q_b u 6
def q_f (n : Nat) : Nat := ([5040, 720, 120, 24, 6, 2, 1, 1] : List Nat).getD n 0
/-- how many rows of what is not used lead to x -/
def q_g (x u s : Nat) : Nat := cond (Nat.beq (q_m u s) x) (q_f (q_r u)) 0
def q_s (x u s : Nat) : Nat → Nat → Nat → Nat
  | 0, _, f => f
  | n + 1, c, f => q_s x u s n (c + 1) (cond (Nat.beq (q_b u c) 0) (f + q_g x (u ||| 2 ^ c) (en_m c s)) f)
theorem q_ok : ∀ x, x < 7 → ∀ u, u < 127 → ∀ s, s < 7 → (Nat.beq u 0 || Nat.beq (q_s x u s 7 0 0) (q_g x u s)) = true := by decide +kernel
theorem q_sh : ∀ u, u < 128 → ∀ c, c < 7 → (nI u >>> (nI c &&& 31)) &&& 1 = nI (q_b u c) := by decide +kernel
theorem q_or : ∀ u, u < 128 → ∀ c, c < 7 → nI u ||| (1 <<< (nI c &&& 31)) = nI (u ||| 2 ^ c) := by decide +kernel
theorem q_ol : ∀ u, u < 128 → ∀ c, c < 7 → u ||| 2 ^ c < 128 := by decide +kernel
theorem q_og : ∀ u, u < 128 → ∀ c, c < 7 → q_b u c = 0 → u < u ||| 2 ^ c := by decide +kernel
theorem q_wn : ∀ c, c < 7 → ∀ s, s < 7 → (([126, 124, 120, 112, 96, 64, 0] : List Int32).getD c 0 >>> (nI s &&& 31)) &&& 1 = (if c < s then 1 else 0) := by decide +kernel
theorem q_b2 (u c : Nat) : q_b u c < 2 := Nat.mod_lt _ (by decide)
theorem q_bl (u : Nat) (c : Nat) (f : Nat) : True := trivial
set_option maxRecDepth 100000 in
set_option maxHeartbeats 8000000 in
theorem wn_ok (b29 ws : List Int32) (c s : Nat) (hc : c < 7) (hs : s < 7) : xR none 7 xi_X0_wins xmi_X0_wins (0, [(0, .ref 28), (1, .int (nI c)), (2, .int (nI s))], [], HC b29 ws, 0, 0) (some (.int (if c < s then 1 else 0)), HC b29 ws, 0, 0) := by
  refine xR_u (stop := 5) 60 7 _ _ rfl ?_
  change xR none 7 xi_X0_wins xmi_X0_wins (5, [(0, .ref 28), (1, .int (nI c)), (2, .int (nI s))], [.int (nI c), .ref 31], HC b29 ws, 0, 0) (some (.int (if c < s then 1 else 0)), HC b29 ws, 0, 0)
  refine xR_ia (k := c) (v := (([126, 124, 120, 112, 96, 64, 0] : List Int32).getD c 0)) rfl rfl (by omega) (by decide) (rfl) ?_
  refine xR_u (stop := 10) 60 7 _ _ rfl ?_
  change xR none 7 xi_X0_wins xmi_X0_wins (10, [(0, .ref 28), (1, .int (nI c)), (2, .int (nI s))], [.int (((([126, 124, 120, 112, 96, 64, 0] : List Int32).getD c 0) >>> ((nI s) &&& 31)) &&& 1)], HC b29 ws, 0, 0) (some (.int (if c < s then 1 else 0)), HC b29 ws, 0, 0)
  rw [q_wn c hc s hs]
  by_cases hz : c < s
  · rw [if_pos hz]; exact ⟨10, rfl⟩
  · rw [if_neg hz]; exact ⟨10, rfl⟩
set_option maxRecDepth 100000 in
set_option maxHeartbeats 8000000 in
theorem sd_ok (b29 ws : List Int32) (c s : Nat) (hc : c < 7) (hs : s < 7) : xR none 8 xi_X0_stands xmi_X0_stands (0, [(0, .ref 28), (1, .int (nI s)), (2, .int (nI c))], [], HC b29 ws, 0, 0) (some (.int (nI (en_m c s))), HC b29 ws, 0, 0) := by
  refine xR_u (stop := 3) 60 8 _ _ rfl ?_
  change xR none 8 xi_X0_stands xmi_X0_stands (3, [(0, .ref 28), (1, .int (nI s)), (2, .int (nI c))], [.int (nI s), .int (nI c), .ref 28], HC b29 ws, 0, 0) (some (.int (nI (en_m c s))), HC b29 ws, 0, 0)
  refine xR_call rfl rfl rfl rfl (wn_ok b29 ws c s hc hs) ?_
  unfold en_m
  by_cases hz : c < s
  · rw [if_pos hz, if_pos hz]; exact ⟨10, rfl⟩
  · rw [if_neg hz, if_neg hz]; exact ⟨10, rfl⟩
set_option maxRecDepth 100000 in
set_option maxHeartbeats 8000000 in
theorem wf_ok (b29 ws : List Int32) (a b : Nat) (v : Int32) (hab : a * 7 + b < 896) (hv : ws.getD (a * 7 + b) 0 = v) : xR none 8 xi_X0_waysFrom xmi_X0_waysFrom (0, [(0, .ref 28), (1, .int (nI a)), (2, .int (nI b))], [], HC b29 ws, 0, 0) (some (.int v), HC b29 ws, 0, 0) := by
  refine xR_u (stop := 10) 60 8 _ _ rfl ?_
  change xR none 8 xi_X0_waysFrom xmi_X0_waysFrom (10, [(0, .ref 28), (1, .int (nI a)), (2, .int (nI b))], [.int (((nI a) * 7) + (nI b)), .ref 34], HC b29 ws, 0, 0) (some (.int v), HC b29 ws, 0, 0)
  rw [show (nI a * 7 + nI b : Int32) = nI (a * 7 + b) from by rw [← nI_add, ← nI_mul]; rfl]
  refine xR_ia (k := a * 7 + b) (v := v) rfl rfl (by omega) (by decide) (hv) ?_
  exact ⟨10, rfl⟩
set_option maxRecDepth 100000 in
set_option maxHeartbeats 8000000 in
theorem cw_c (b29 ws : List Int32) (X : Int32) (x u s : Nat) (hu : u < 127) (hs : s < 7) (hw : ∀ v, u < v → v < 128 → ∀ t, t < 7 → ws.getD (v * 7 + t) 0 = nI (q_g x v t)) (o : Option Value × xh_H × Nat × Nat) : ∀ n c f, c + n = 7 → xR none 9 xi_X0_countWays xmi_X0_countWays (99, [(5, .int 7), (4, .int (nI (q_s x u s n c f))), (3, .int (nI s)), (2, .int (nI u)), (0, .ref 28), (1, .int X)], [], HC b29 ws, 0, 0) o → xR none 9 xi_X0_countWays xmi_X0_countWays (55, [(5, .int (nI c)), (4, .int (nI f)), (3, .int (nI s)), (2, .int (nI u)), (0, .ref 28), (1, .int X)], [], HC b29 ws, 0, 0) o := by
  intro n
  induction n with
  | zero =>
    intro c f hc kk
    have e : c = 7 := by omega
    subst e
    change xR none 9 xi_X0_countWays xmi_X0_countWays (55, [(5, .int 7), (4, .int (nI f)), (3, .int (nI s)), (2, .int (nI u)), (0, .ref 28), (1, .int X)], [], HC b29 ws, 0, 0) o
    refine xR_u (stop := 99) 60 9 _ _ rfl ?_
    change xR none 9 xi_X0_countWays xmi_X0_countWays (99, [(5, .int 7), (4, .int (nI f)), (3, .int (nI s)), (2, .int (nI u)), (0, .ref 28), (1, .int X)], [], HC b29 ws, 0, 0) o
    exact kk
  | succ n ih =>
    intro c f hc kk
    unfold q_s at kk
    refine xR_u (stop := 59) 60 9 _ _ rfl ?_
    change xR none 9 xi_X0_countWays xmi_X0_countWays (59, [(5, .int (nI c)), (4, .int (nI f)), (3, .int (nI s)), (2, .int (nI u)), (0, .ref 28), (1, .int X)], [.int 7, .int (nI c)], HC b29 ws, 0, 0) o
    refine xR_ic (x := (nI c)) (y := 7) rfl (fun z => absurd z (by intro z; have := xc_geT (a := c) (b := 7) (by omega) (by omega) z; omega)) (fun _ => ?_)
    change xR none 9 xi_X0_countWays xmi_X0_countWays (62, [(5, .int (nI c)), (4, .int (nI f)), (3, .int (nI s)), (2, .int (nI u)), (0, .ref 28), (1, .int X)], [], HC b29 ws, 0, 0) o
    refine xR_u (stop := 68) 60 9 _ _ rfl ?_
    change xR none 9 xi_X0_countWays xmi_X0_countWays (68, [(5, .int (nI c)), (4, .int (nI f)), (3, .int (nI s)), (2, .int (nI u)), (0, .ref 28), (1, .int X)], [.int (((nI u) >>> ((nI c) &&& 31)) &&& 1)], HC b29 ws, 0, 0) o
    rw [q_sh u (by omega) c (by omega)]
    have hb2 := q_b2 u c
    refine xR_if (x := (nI (q_b u c))) rfl (fun z => ?_) (fun z => ?_)
    · have hb : q_b u c ≠ 0 := by intro e; rw [e] at z; cases z
      rw [show Nat.beq (q_b u c) 0 = false from by rw [Bool.eq_false_iff]; intro q; exact hb (Nat.eq_of_beq_eq_true q)] at kk
      change xR none 9 xi_X0_countWays xmi_X0_countWays (93, [(5, .int (nI c)), (4, .int (nI f)), (3, .int (nI s)), (2, .int (nI u)), (0, .ref 28), (1, .int X)], [], HC b29 ws, 0, 0) o
      refine xR_u (stop := 55) 60 9 _ _ rfl ?_
      change xR none 9 xi_X0_countWays xmi_X0_countWays (55, [(5, .int ((nI c) + Int32.ofInt 1)), (4, .int (nI f)), (3, .int (nI s)), (2, .int (nI u)), (0, .ref 28), (1, .int X)], [], HC b29 ws, 0, 0) o
      rw [show nI c + Int32.ofInt 1 = nI (c + 1) from nI_1 c]
      exact ih (c + 1) f (by omega) kk
    · have hb : q_b u c = 0 := by
        rcases Nat.lt_or_ge 0 (q_b u c) with hp | hp
        · have e : q_b u c = 1 := by omega
          rw [e] at z; cases z
        · omega
      rw [show Nat.beq (q_b u c) 0 = true from by rw [hb]; rfl] at kk
      simp only [cond_true] at kk
      change xR none 9 xi_X0_countWays xmi_X0_countWays (71, [(5, .int (nI c)), (4, .int (nI f)), (3, .int (nI s)), (2, .int (nI u)), (0, .ref 28), (1, .int X)], [], HC b29 ws, 0, 0) o
      refine xR_u (stop := 84) 60 9 _ _ rfl ?_
      change xR none 9 xi_X0_countWays xmi_X0_countWays (84, [(5, .int (nI c)), (4, .int (nI f)), (3, .int (nI s)), (2, .int (nI u)), (0, .ref 28), (1, .int X)], [.int (nI c), .int (nI s), .ref 28, .int ((nI u) ||| (1 <<< ((nI c) &&& 31))), .ref 28, .int (nI f)], HC b29 ws, 0, 0) o
      rw [q_or u (by omega) c (by omega)]
      refine xR_call rfl rfl rfl rfl (sd_ok b29 ws c s (by omega) hs) ?_
      change xR none 9 xi_X0_countWays xmi_X0_countWays (87, [(5, .int (nI c)), (4, .int (nI f)), (3, .int (nI s)), (2, .int (nI u)), (0, .ref 28), (1, .int X)], [.int (nI (en_m c s)), .int (nI (u ||| 2 ^ c)), .ref 28, .int (nI f)], HC b29 ws, 0, 0) o
      have hl := q_ol u (by omega) c (by omega)
      have hg := q_og u (by omega) c (by omega) hb
      have hm : en_m c s < 7 := en_ml (by omega) hs
      refine xR_call rfl rfl rfl rfl (wf_ok b29 ws (u ||| 2 ^ c) (en_m c s) _ (by omega) (hw _ hg hl _ hm)) ?_
      change xR none 9 xi_X0_countWays xmi_X0_countWays (90, [(5, .int (nI c)), (4, .int (nI f)), (3, .int (nI s)), (2, .int (nI u)), (0, .ref 28), (1, .int X)], [.int (nI (q_g x (u ||| 2 ^ c) (en_m c s))), .int (nI f)], HC b29 ws, 0, 0) o
      refine xR_u (stop := 55) 60 9 _ _ rfl ?_
      change xR none 9 xi_X0_countWays xmi_X0_countWays (55, [(5, .int ((nI c) + Int32.ofInt 1)), (4, .int ((nI f) + (nI (q_g x (u ||| 2 ^ c) (en_m c s))))), (3, .int (nI s)), (2, .int (nI u)), (0, .ref 28), (1, .int X)], [], HC b29 ws, 0, 0) o
      rw [nI_add, show nI c + Int32.ofInt 1 = nI (c + 1) from nI_1 c]
      exact ih (c + 1) _ (by omega) kk
theorem xsr_len {α : Type} (z x : α) : ∀ (k : Nat) (l : List α), k < l.length → (xsr z l k x).length = l.length := by
  intro k
  induction k with
  | zero => intro l h; cases l with
    | nil => cases h
    | cons a t => rfl
  | succ k ih => intro l h; cases l with
    | nil => cases h
    | cons a t => exact congrArg (· + 1) (ih t (Nat.lt_of_succ_lt_succ h))
def q_I (x u s : Nat) (ws : List Int32) : Prop := ws.length = 896 ∧ ∀ v, v < 128 → ∀ t, t < 7 → ws.getD (v * 7 + t) 0 = if u < v ∨ (u = v ∧ t < s) then nI (q_g x v t) else 0
theorem q_I_s {x u s : Nat} {ws : List Int32} (h : q_I x u s ws) (hu : u < 128) (hs : s < 7) : q_I x u (s + 1) (xsr 0 ws (u * 7 + s) (nI (q_g x u s))) := by
  refine ⟨(xsr_len _ _ _ _ (by rw [h.1]; omega)).trans h.1, fun v hv t ht => ?_⟩
  by_cases e : v * 7 + t = u * 7 + s
  · have e1 : v = u := by omega
    have e2 : t = s := by omega
    subst e1
    subst e2
    rw [xsr_s, if_pos (Or.inr ⟨rfl, Nat.lt_succ_self _⟩)]
  · rw [xsr_o _ _ _ _ _ e, h.2 v hv t ht]
    by_cases c1 : u < v ∨ (u = v ∧ t < s)
    · rw [if_pos c1, if_pos (by omega)]
    · rw [if_neg c1, if_neg (by omega)]
theorem q_I_d {x u : Nat} {ws : List Int32} (h : q_I x (u + 1) 7 ws) : q_I x u 0 ws := by
  refine ⟨h.1, fun v hv t ht => ?_⟩
  rw [h.2 v hv t ht]
  by_cases c1 : u + 1 < v ∨ (u + 1 = v ∧ t < 7)
  · rw [if_pos c1, if_pos (by omega)]
  · rw [if_neg c1, if_neg (by omega)]
def q_W (x : Nat) : List Int32 := (List.range 896).map (fun i => cond (Nat.ble 7 i) (nI (q_g x (i / 7) (i % 7))) 0)
theorem q_Wg (x i : Nat) (hi : i < 896) : (q_W x)[i]? = some (cond (Nat.ble 7 i) (nI (q_g x (i / 7) (i % 7))) 0) := by
  unfold q_W
  rw [List.getElem?_map, List.getElem?_range hi]
  rfl
theorem q_I_e {x : Nat} {ws : List Int32} (h : q_I x 0 0 ws) : ws = q_W x := by
  have hl : (q_W x).length = 896 := by unfold q_W; rw [List.length_map, List.length_range]
  apply List.ext_getElem?
  intro i
  by_cases hi : i < 896
  · have h1 : i < ws.length := by rw [h.1]; exact hi
    have e := h.2 (i / 7) (by omega) (i % 7) (by omega)
    rw [show i / 7 * 7 + i % 7 = i from by omega, List.getD_eq_getElem?_getD, List.getElem?_eq_getElem h1] at e
    simp only [Option.getD_some] at e
    rw [q_Wg x i hi, List.getElem?_eq_getElem h1, e]
    by_cases c : 7 ≤ i
    · rw [Nat.ble_eq.mpr c, if_pos (by omega)]; rfl
    · rw [show Nat.ble 7 i = false from by rw [Bool.eq_false_iff]; intro q; exact c (Nat.ble_eq.mp q), if_neg (by omega)]; rfl
  · rw [List.getElem?_eq_none (by rw [h.1]; omega), List.getElem?_eq_none (by rw [hl]; omega)]
set_option maxRecDepth 100000 in
set_option maxHeartbeats 8000000 in
theorem cw_r (b29 ws : List Int32) (X : Int32) (x u s : Nat) (hx : x < 7) (hu : u < 127) (h0 : 0 < u) (hs : s < 7) (hw : q_I x u s ws) (o : Option Value × xh_H × Nat × Nat) (kk : xR none 9 xi_X0_countWays xmi_X0_countWays (43, [(3, .int (nI (s + 1))), (5, .int 7), (4, .int (nI (q_g x u s))), (2, .int (nI u)), (0, .ref 28), (1, .int X)], [], HC b29 (xsr 0 ws (u * 7 + s) (nI (q_g x u s))), 0, 0) o) : xR none 9 xi_X0_countWays xmi_X0_countWays (55, [(5, .int 0), (4, .int 0), (3, .int (nI s)), (2, .int (nI u)), (0, .ref 28), (1, .int X)], [], HC b29 ws, 0, 0) o := by
  have e := q_ok x hx u hu s hs
  rw [show Nat.beq u 0 = false from by rw [Bool.eq_false_iff]; intro q; have := Nat.eq_of_beq_eq_true q; omega] at e
  have e : q_s x u s 7 0 0 = q_g x u s := Nat.eq_of_beq_eq_true e
  refine cw_c b29 ws X x u s hu hs (fun v hv hv2 t ht => by rw [hw.2 v hv2 t ht, if_pos (Or.inl hv)]) o 7 0 0 rfl ?_
  rw [e]
  refine xR_u (stop := 111) 60 9 _ _ rfl ?_
  change xR none 9 xi_X0_countWays xmi_X0_countWays (111, [(5, .int 7), (4, .int (nI (q_g x u s))), (3, .int (nI s)), (2, .int (nI u)), (0, .ref 28), (1, .int X)], [.int (nI (q_g x u s)), .int (((nI u) * 7) + (nI s)), .ref 34], HC b29 ws, 0, 0) o
  rw [show (nI u * 7 + nI s : Int32) = nI (u * 7 + s) from by rw [← nI_add, ← nI_mul]; rfl]
  refine xR_is (k := u * 7 + s) (h' := HC b29 (xsr 0 ws (u * 7 + s) (nI (q_g x u s)))) rfl rfl (by omega) (by decide) rfl ?_
  change xR none 9 xi_X0_countWays xmi_X0_countWays (112, [(5, .int 7), (4, .int (nI (q_g x u s))), (3, .int (nI s)), (2, .int (nI u)), (0, .ref 28), (1, .int X)], [], HC b29 (xsr 0 ws (u * 7 + s) (nI (q_g x u s))), 0, 0) o
  refine xR_u (stop := 43) 60 9 _ _ rfl ?_
  change xR none 9 xi_X0_countWays xmi_X0_countWays (43, [(3, .int ((nI s) + Int32.ofInt 1)), (5, .int 7), (4, .int (nI (q_g x u s))), (2, .int (nI u)), (0, .ref 28), (1, .int X)], [], HC b29 (xsr 0 ws (u * 7 + s) (nI (q_g x u s))), 0, 0) o
  rw [show nI s + Int32.ofInt 1 = nI (s + 1) from nI_1 s]
  exact kk
set_option maxRecDepth 100000 in
set_option maxHeartbeats 8000000 in
theorem cw_s (b29 : List Int32) (X : Int32) (x u : Nat) (hx : x < 7) (hu : u < 127) (h0 : 0 < u) (o : Option Value × xh_H × Nat × Nat) (kk : ∀ ws2 f2, q_I x u 7 ws2 → xR none 9 xi_X0_countWays xmi_X0_countWays (43, [(3, .int 7), (5, .int 7), (4, .int f2), (2, .int (nI u)), (0, .ref 28), (1, .int X)], [], HC b29 ws2, 0, 0) o) : ∀ n s ws f4, s + n = 7 → q_I x u s ws → xR none 9 xi_X0_countWays xmi_X0_countWays (43, [(3, .int (nI s)), (5, .int 7), (4, .int f4), (2, .int (nI u)), (0, .ref 28), (1, .int X)], [], HC b29 ws, 0, 0) o := by
  intro n
  induction n with
  | zero =>
    intro s ws f4 hs hw
    have e : s = 7 := by omega
    subst e
    exact kk ws f4 hw
  | succ n ih =>
    intro s ws f4 hs hw
    refine xR_u (stop := 46) 60 9 _ _ rfl ?_
    change xR none 9 xi_X0_countWays xmi_X0_countWays (46, [(3, .int (nI s)), (5, .int 7), (4, .int f4), (2, .int (nI u)), (0, .ref 28), (1, .int X)], [.int 7, .int (nI s)], HC b29 ws, 0, 0) o
    refine xR_ic (x := (nI s)) (y := 7) rfl (fun z => absurd z (by intro z; have := xc_geT (a := s) (b := 7) (by omega) (by omega) z; omega)) (fun _ => ?_)
    change xR none 9 xi_X0_countWays xmi_X0_countWays (49, [(3, .int (nI s)), (5, .int 7), (4, .int f4), (2, .int (nI u)), (0, .ref 28), (1, .int X)], [], HC b29 ws, 0, 0) o
    refine xR_u (stop := 55) 60 9 _ _ rfl ?_
    change xR none 9 xi_X0_countWays xmi_X0_countWays (55, [(5, .int 0), (4, .int 0), (3, .int (nI s)), (2, .int (nI u)), (0, .ref 28), (1, .int X)], [], HC b29 ws, 0, 0) o
    exact cw_r b29 ws X x u s hx hu h0 (by omega) hw o (ih (s + 1) _ _ (by omega) (q_I_s hw (by omega) (by omega)))
set_option maxRecDepth 100000 in
set_option maxHeartbeats 8000000 in
theorem cw_u (b29 : List Int32) (X : Int32) (x : Nat) (hx : x < 7) : ∀ u ws f4, u < 127 → q_I x u 0 ws → xR none 9 xi_X0_countWays xmi_X0_countWays (37, [(2, .int (nI u)), (3, .int 7), (5, .int 7), (4, .int f4), (0, .ref 28), (1, .int X)], [], HC b29 ws, 0, 0) (none, HC b29 (q_W x), 0, 0) := by
  intro u
  induction u with
  | zero =>
    intro ws f4 hu hw
    rw [q_I_e hw]
    exact ⟨10, rfl⟩
  | succ u ih =>
    intro ws f4 hu hw
    refine xR_u (stop := 38) 60 9 _ _ rfl ?_
    change xR none 9 xi_X0_countWays xmi_X0_countWays (38, [(2, .int (nI (u + 1))), (3, .int 7), (5, .int 7), (4, .int f4), (0, .ref 28), (1, .int X)], [.int (nI (u + 1))], HC b29 ws, 0, 0) _
    refine xR_if (x := (nI (u + 1))) rfl (fun z => absurd z (by intro z; have := xc_leT (a := (u + 1)) (b := 0) (by omega) (by omega) z; omega)) (fun _ => ?_)
    change xR none 9 xi_X0_countWays xmi_X0_countWays (41, [(2, .int (nI (u + 1))), (3, .int 7), (5, .int 7), (4, .int f4), (0, .ref 28), (1, .int X)], [], HC b29 ws, 0, 0) _
    refine xR_u (stop := 55) 60 9 _ _ rfl ?_
    change xR none 9 xi_X0_countWays xmi_X0_countWays (55, [(5, .int 0), (4, .int 0), (3, .int 0), (2, .int (nI (u + 1))), (0, .ref 28), (1, .int X)], [], HC b29 ws, 0, 0) _
    refine cw_r b29 ws X x (u + 1) 0 hx (by omega) (by omega) (by omega) hw _ ?_
    refine cw_s b29 X x (u + 1) hx (by omega) (by omega) _ (fun ws2 f2 h2 => ?_) 6 1 _ _ (by omega) (q_I_s hw (by omega) (by omega))
    change xR none 9 xi_X0_countWays xmi_X0_countWays (43, [(3, .int 7), (5, .int 7), (4, .int f2), (2, .int (nI (u + 1))), (0, .ref 28), (1, .int X)], [], HC b29 ws2, 0, 0) _
    refine xR_u (stop := 37) 60 9 _ _ rfl ?_
    change xR none 9 xi_X0_countWays xmi_X0_countWays (37, [(2, .int ((nI (u + 1)) + Int32.ofInt (-1))), (3, .int 7), (5, .int 7), (4, .int f2), (0, .ref 28), (1, .int X)], [], HC b29 ws2, 0, 0) _
    rw [nI_dec u]
    exact ih ws2 f2 (by omega) (q_I_d h2)
set_option maxRecDepth 100000 in
set_option maxHeartbeats 8000000 in
theorem cw_all (b29 ws : List Int32) (X : Int32) (x : Nat) (hx : x < 7) (hw : q_I x 126 0 ws) : xR none 9 xi_X0_countWays xmi_X0_countWays (37, [(2, .int 126), (0, .ref 28), (1, .int X)], [], HC b29 ws, 0, 0) (none, HC b29 (q_W x), 0, 0) := by
  change xR none 9 xi_X0_countWays xmi_X0_countWays (37, [(2, .int (nI 126)), (0, .ref 28), (1, .int X)], [], HC b29 ws, 0, 0) _
  refine xR_u (stop := 38) 60 9 _ _ rfl ?_
  change xR none 9 xi_X0_countWays xmi_X0_countWays (38, [(2, .int (nI 126)), (0, .ref 28), (1, .int X)], [.int (nI 126)], HC b29 ws, 0, 0) _
  refine xR_if (x := (nI 126)) rfl (fun z => absurd z (by intro z; have := xc_leT (a := 126) (b := 0) (by omega) (by omega) z; omega)) (fun _ => ?_)
  change xR none 9 xi_X0_countWays xmi_X0_countWays (41, [(2, .int (nI 126)), (0, .ref 28), (1, .int X)], [], HC b29 ws, 0, 0) _
  refine xR_u (stop := 55) 60 9 _ _ rfl ?_
  change xR none 9 xi_X0_countWays xmi_X0_countWays (55, [(5, .int 0), (4, .int 0), (3, .int 0), (2, .int (nI 126)), (0, .ref 28), (1, .int X)], [], HC b29 ws, 0, 0) _
  refine cw_r b29 ws X x 126 0 hx (by omega) (by omega) (by omega) hw _ ?_
  refine cw_s b29 X x 126 hx (by omega) (by omega) _ (fun ws2 f2 h2 => ?_) 6 1 _ _ (by omega) (q_I_s hw (by omega) (by omega))
  change xR none 9 xi_X0_countWays xmi_X0_countWays (43, [(3, .int 7), (5, .int 7), (4, .int f2), (2, .int (nI 126)), (0, .ref 28), (1, .int X)], [], HC b29 ws2, 0, 0) _
  refine xR_u (stop := 37) 60 9 _ _ rfl ?_
  change xR none 9 xi_X0_countWays xmi_X0_countWays (37, [(2, .int ((nI 126) + Int32.ofInt (-1))), (3, .int 7), (5, .int 7), (4, .int f2), (0, .ref 28), (1, .int X)], [], HC b29 ws2, 0, 0) _
  exact cw_u b29 X x hx 125 ws2 f2 (by omega) (q_I_d h2)
end XRC
