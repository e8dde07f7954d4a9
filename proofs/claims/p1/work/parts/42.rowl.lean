section XRL
def rw_fr (v : Nat) (k : Nat → Bool) : Bool := match v with
  | 0 => k 0
  | 1 => k 1
  | 2 => k 2
  | 3 => k 3
  | 4 => k 4
  | 5 => k 5
  | 6 => k 6
  | _ => false
theorem rw_fr_ok {v : Nat} {k : Nat → Bool} (h : rw_fr v k = true) : v < 7 ∧ k v = true := by
  match v, h with
  | 0, h => exact ⟨by decide, h⟩
  | 1, h => exact ⟨by decide, h⟩
  | 2, h => exact ⟨by decide, h⟩
  | 3, h => exact ⟨by decide, h⟩
  | 4, h => exact ⟨by decide, h⟩
  | 5, h => exact ⟨by decide, h⟩
  | 6, h => exact ⟨by decide, h⟩
  | n + 7, h => cases h
def rw_fl : List Nat → (List Nat → Bool) → Bool
  | [], k => k []
  | a :: t, k => rw_fr a (fun a => rw_fl t (fun t => k (a :: t)))
theorem rw_fl_ok : ∀ (l : List Nat) (k : List Nat → Bool), rw_fl l k = true → (∀ j, l.getD j 0 < 7) ∧ k l = true := by
  intro l
  induction l with
  | nil => intro k h; exact ⟨fun j => by simp, h⟩
  | cons a t ih =>
    intro k h
    unfold rw_fl at h
    obtain ⟨h1, h2⟩ := rw_fr_ok h
    obtain ⟨h3, h4⟩ := ih _ h2
    refine ⟨fun j => ?_, h4⟩
    cases j with
    | zero => exact h1
    | succ j => exact h3 j
/-- n rows from this one to the last, each of which leads to option 0 -/
def rw_c : Nat → List Nat → Bool
  | 0, _ => false
  | n + 1, od => rw_fl od (fun od => Nat.beq (en_f od) 0 && (match g_n od with
    | none => Nat.beq n 0
    | some od' => rw_c n od'))
theorem rw_c_ok {n : Nat} {od : List Nat} (h : rw_c (n + 1) od = true) : (∀ j, od.getD j 0 < 7) ∧ en_f od = 0 ∧ ((g_1 od 6 = 0 ∧ n = 0) ∨ ∃ i, g_1 od 6 = i + 1 ∧ rw_c n (g_4 6 (g_sw od i (g_2 od i 6)) (i + 1) 6) = true) := by
  unfold rw_c at h
  obtain ⟨h1, h2⟩ := rw_fl_ok _ _ h
  obtain ⟨h2, h3⟩ := xw_bb h2
  refine ⟨h1, xw_beq h2, ?_⟩
  unfold g_n at h3
  cases e : g_1 od 6 with
  | zero => rw [e] at h3; exact Or.inl ⟨rfl, xw_beq h3⟩
  | succ i => rw [e] at h3; exact Or.inr ⟨i, rfl, h3⟩
set_option maxRecDepth 100000 in
set_option maxHeartbeats 8000000 in
theorem rw_A (b29 b31 b34 r39 r67 : List Int32) (X : Int32) (hX : X ≠ 0) : ∀ (n : Nat) (od : List Nat), rw_c (n + 1) od = true → ∃ od2 : List Int32, xR none 11 xi_X10_rows xmi_X10_rows (99, [(3, .int 1), (2, .int 0), (0, .ref 39), (1, .int X)], [], HR b29 b31 b34 r39 (od.map nI) r67, 0, 0) (some (.int 0), HR b29 b31 b34 r39 od2 r67, 0, 0) := by
  intro n
  induction n with
  | zero =>
    intro od hc
    obtain ⟨hod, _, h⟩ := rw_c_ok hc
    rcases h with ⟨hg, _⟩ | ⟨i, _, hc2⟩
    · apply Exists.intro
      refine xR_u (stop := 100) 60 11 _ _ rfl ?_
      change xR none 11 xi_X10_rows xmi_X10_rows (100, [(3, .int 1), (2, .int 0), (0, .ref 39), (1, .int X)], [.ref 39], HR b29 b31 b34 r39 (od.map nI) r67, 0, 0) _
      refine xR_call rfl rfl rfl rfl (go_no b29 b31 b34 r39 r67 od hod hg) ?_
      exact ⟨12, rfl⟩
    · simp [rw_c] at hc2
  | succ n ih =>
    intro od hc
    obtain ⟨hod, _, h⟩ := rw_c_ok hc
    rcases h with ⟨_, hn⟩ | ⟨i, hg, hc2⟩
    · omega
    · obtain ⟨hod2, he2, _⟩ := rw_c_ok hc2
      obtain ⟨od2, hi⟩ := ih _ hc2
      refine ⟨od2, ?_⟩
      refine xR_u (stop := 100) 60 11 _ _ rfl ?_
      change xR none 11 xi_X10_rows xmi_X10_rows (100, [(3, .int 1), (2, .int 0), (0, .ref 39), (1, .int X)], [.ref 39], HR b29 b31 b34 r39 (od.map nI) r67, 0, 0) _
      refine xR_call rfl rfl rfl rfl (go_yes b29 b31 b34 r39 r67 od hod i hg) ?_
      generalize g_4 6 (g_sw od i (g_2 od i 6)) (i + 1) 6 = od1 at hod2 he2 hi hc2 ⊢
      change xR none 11 xi_X10_rows xmi_X10_rows (103, [(3, .int 1), (2, .int 0), (0, .ref 39), (1, .int X)], [.int 1], HR b29 b31 b34 r39 (od1.map nI) r67, 0, 0) _
      refine xR_u (stop := 43) 60 11 _ _ rfl ?_
      change xR none 11 xi_X10_rows xmi_X10_rows (43, [(3, .int 1), (2, .int 0), (0, .ref 39), (1, .int X)], [], HR b29 b31 b34 r39 (od1.map nI) r67, 0, 0) _
      change xR none 11 xi_X10_rows xmi_X10_rows (43, [(3, .int 1), (2, .int 0), (0, .ref 39), (1, .int X)], [], HR b29 b31 b34 r39 (od1.map nI) r67, 0, 0) _
      refine xR_u (stop := 50) 60 11 _ _ rfl ?_
      change xR none 11 xi_X10_rows xmi_X10_rows (50, [(3, .int 1), (2, .int 0), (0, .ref 39), (1, .int X)], [.int 7, .ref 39], HR b29 b31 b34 r39 (od1.map nI) r67, 0, 0) _
      have re := en_ok b29 b31 b34 r39 r67 od1 hod2
      rw [he2] at re
      refine xR_call rfl rfl rfl rfl re ?_
      change xR none 11 xi_X10_rows xmi_X10_rows (53, [(3, .int 1), (2, .int 0), (0, .ref 39), (1, .int X)], [.int 0], HR b29 b31 b34 r39 (od1.map nI) r67, 0, 0) _
      refine xR_u (stop := 54) 60 11 _ _ rfl ?_
      change xR none 11 xi_X10_rows xmi_X10_rows (54, [(3, .int 1), (2, .int 0), (0, .ref 39), (1, .int X)], [.int X, .int 0], HR b29 b31 b34 r39 (od1.map nI) r67, 0, 0) _
      refine xR_ic (x := 0) (y := X) rfl (fun _ => ?_) (fun z => absurd z (by simp [xe_c, Ne.symm hX]))
      exact hi
set_option maxRecDepth 100000 in
set_option maxHeartbeats 8000000 in
theorem rw_B (b29 b31 b34 r67 : List Int32) : ∀ (n : Nat) (od : List Nat) (f : Nat) (r39 : List Int32) (v4 : Int32), 1 ≤ f → f + n < 100000 → rw_c (n + 1) od = true → ∃ r2 od2 : List Int32, xR none 11 xi_X10_rows xmi_X10_rows (99, [(2, .int (nI f)), (4, .int v4), (3, .int 1), (0, .ref 39), (1, .int 0)], [], HR b29 b31 b34 r39 (od.map nI) r67, 0, 0) (some (.int (nI (f + n))), HR b29 b31 b34 r2 od2 r67, 0, 0) := by
  intro n
  induction n with
  | zero =>
    intro od f r39 v4 hf hfn hc
    obtain ⟨hod, _, h⟩ := rw_c_ok hc
    rcases h with ⟨hg, _⟩ | ⟨i, _, hc2⟩
    · apply Exists.intro
      apply Exists.intro
      refine xR_u (stop := 100) 60 11 _ _ rfl ?_
      change xR none 11 xi_X10_rows xmi_X10_rows (100, [(2, .int (nI f)), (4, .int v4), (3, .int 1), (0, .ref 39), (1, .int 0)], [.ref 39], HR b29 b31 b34 r39 (od.map nI) r67, 0, 0) _
      refine xR_call rfl rfl rfl rfl (go_no b29 b31 b34 r39 r67 od hod hg) ?_
      exact ⟨12, rfl⟩
    · simp [rw_c] at hc2
  | succ n ih =>
    intro od f r39 v4 hf hfn hc
    obtain ⟨hod, _, h⟩ := rw_c_ok hc
    rcases h with ⟨_, hn⟩ | ⟨i, hg, hc2⟩
    · omega
    · obtain ⟨hod2, he2, _⟩ := rw_c_ok hc2
      obtain ⟨r2, od2, hi⟩ := ih _ (f + 1) (xsr 0 r39 59 1) 0 (by omega) (by omega) hc2
      refine ⟨r2, od2, ?_⟩
      refine xR_u (stop := 100) 60 11 _ _ rfl ?_
      change xR none 11 xi_X10_rows xmi_X10_rows (100, [(2, .int (nI f)), (4, .int v4), (3, .int 1), (0, .ref 39), (1, .int 0)], [.ref 39], HR b29 b31 b34 r39 (od.map nI) r67, 0, 0) _
      refine xR_call rfl rfl rfl rfl (go_yes b29 b31 b34 r39 r67 od hod i hg) ?_
      generalize g_4 6 (g_sw od i (g_2 od i 6)) (i + 1) 6 = od1 at hod2 he2 hi hc2 ⊢
      change xR none 11 xi_X10_rows xmi_X10_rows (103, [(2, .int (nI f)), (4, .int v4), (3, .int 1), (0, .ref 39), (1, .int 0)], [.int 1], HR b29 b31 b34 r39 (od1.map nI) r67, 0, 0) _
      refine xR_u (stop := 43) 60 11 _ _ rfl ?_
      change xR none 11 xi_X10_rows xmi_X10_rows (43, [(3, .int 1), (2, .int (nI f)), (4, .int v4), (0, .ref 39), (1, .int 0)], [], HR b29 b31 b34 r39 (od1.map nI) r67, 0, 0) _
      change xR none 11 xi_X10_rows xmi_X10_rows (43, [(3, .int 1), (2, .int (nI f)), (4, .int v4), (0, .ref 39), (1, .int 0)], [], HR b29 b31 b34 r39 (od1.map nI) r67, 0, 0) _
      refine xR_u (stop := 50) 60 11 _ _ rfl ?_
      change xR none 11 xi_X10_rows xmi_X10_rows (50, [(3, .int 1), (2, .int (nI f)), (4, .int v4), (0, .ref 39), (1, .int 0)], [.int 7, .ref 39], HR b29 b31 b34 r39 (od1.map nI) r67, 0, 0) _
      have re := en_ok b29 b31 b34 r39 r67 od1 hod2
      rw [he2] at re
      refine xR_call rfl rfl rfl rfl re ?_
      change xR none 11 xi_X10_rows xmi_X10_rows (53, [(3, .int 1), (2, .int (nI f)), (4, .int v4), (0, .ref 39), (1, .int 0)], [.int 0], HR b29 b31 b34 r39 (od1.map nI) r67, 0, 0) _
      refine xR_u (stop := 54) 60 11 _ _ rfl ?_
      change xR none 11 xi_X10_rows xmi_X10_rows (54, [(3, .int 1), (2, .int (nI f)), (4, .int v4), (0, .ref 39), (1, .int 0)], [.int 0, .int 0], HR b29 b31 b34 r39 (od1.map nI) r67, 0, 0) _
      refine xR_u (stop := 68) 60 11 _ _ rfl ?_
      change xR none 11 xi_X10_rows xmi_X10_rows (68, [(4, .int 0), (3, .int 1), (2, .int (nI f)), (0, .ref 39), (1, .int 0)], [.int (nI f)], HR b29 b31 b34 r39 (od1.map nI) r67, 0, 0) _
      refine xR_if (x := (nI f)) rfl (fun _ => ?_) (fun z => absurd z (by simp [xe_c, nI_ne0 (n := f) (by omega) (by omega)]))
      change xR none 11 xi_X10_rows xmi_X10_rows (91, [(4, .int 0), (3, .int 1), (2, .int (nI f)), (0, .ref 39), (1, .int 0)], [], HR b29 b31 b34 r39 (od1.map nI) r67, 0, 0) _
      refine xR_u (stop := 96) 60 11 _ _ rfl ?_
      change xR none 11 xi_X10_rows xmi_X10_rows (96, [(2, .int ((nI f) + Int32.ofInt 1)), (4, .int 0), (3, .int 1), (0, .ref 39), (1, .int 0)], [.int 1, .ref 39], HR b29 b31 b34 r39 (od1.map nI) r67, 0, 0) _
      refine xR_u (stop := 99) 60 11 _ _ rfl ?_
      change xR none 11 xi_X10_rows xmi_X10_rows (99, [(2, .int ((nI f) + Int32.ofInt 1)), (4, .int 0), (3, .int 1), (0, .ref 39), (1, .int 0)], [], HR b29 b31 b34 (xsr 0 r39 59 1) (od1.map nI) r67, 0, 0) _
      rw [show nI f + Int32.ofInt 1 = nI (f + 1) from nI_1 f, show f + (n + 1) = f + 1 + n from by omega]
      exact hi
theorem rw_all : rw_c 5040 [0, 1, 2, 3, 4, 5, 6] = true := by decide +kernel
end XRL
