section XFR
/-- the heap behind the three makings -/
def xf_h : xh_H := ([(0, 9), (0, 8), (2, 640), (0, 4), (0, 3), (1, 400), (1, 400), (1, 64), (0, 6), (1, 16), (1, 16), (0, 7), (4, 64), (5, 8), (0, 2), (1, 924), (1, 924), (1, 12), (1, 14), (1, 12), (4, 13), (0, 5), (1, 12), (1, 12), (1, 12), (1, 12), (1, 12), (1, 12), (0, 0), (1, 7), (1, 84), (1, 7), (1, 7), (1, 7), (1, 896), (0, 1), (1, 60), (1, 60), (3, 60), (0, 10), (1, 640), (3, 53248), (3, 53248), (3, 65536), (3, 32768), (3, 4096), (1, 53248), (1, 13), (1, 13), (1, 13), (4, 16), (1, 8), (1, 8), (3, 4096), (1, 12), (1, 12), (1, 12), (1, 12), (1, 13), (1, 924), (1, 924), (3, 144), (1, 84), (3, 49), (3, 49), (1, 56), (1, 7), (1, 7), (1, 60), (1, 60), (3, 60), (4, 1)],
  [[0, 0, 0, 0, 0, 0, 0, 0, 0, 3, 0, 0], [0, 0], [], [], [0, 0, 0, 0], [], [], [], [], [], [], [-1], [], [], [0, 0, 0, 0, 0, 0, 0, 0], [], [], [], [], [], [], [0, -1, 0, 0, 0, 0, 0, 0, 0, 0, 0, 0, 0, 0, 0, 0], [-1, -1, -1, -1, -1, -1, -1, -1, -1, -1, -1, -1], [], [], [], [], [], [], [-1, -1, -1, -1, -1, -1, -1], [0, 1, 2, 3, 4, 5, 6, 0, 1, 2, 3, 4, 5, 6, 0, 1, 2, 3, 4, 5, 6, 0, 1, 2, 3, 4, 5, 6, 0, 1, 2, 3, 4, 5, 6, 0, 1, 2, 3, 4, 5, 6, 0, 1, 2, 3, 4, 5, 6, 0, 1, 2, 3, 4, 5, 6, 0, 1, 2, 3, 4, 5, 6, 0, 1, 2, 3, 4, 5, 6, 0, 1, 2, 3, 4, 5, 6, 0, 1, 2, 3, 4, 5, 6], [], [], [], [], [0, 0, 0, 0], [], [], [], [0, 0, 0, 0, 3], [], [], [], [], [], [], [], [], [], [], [], [], [], [], [], [], [], [], [], [], [], [], [0, 1, 2, 3, 4, 5, 6, 0, 1, 2, 3, 4, 5, 6, 0, 1, 2, 3, 4, 5, 6, 0, 1, 2, 3, 4, 5, 6, 0, 1, 2, 3, 4, 5, 6, 0, 1, 2, 3, 4, 5, 6, 0, 1, 2, 3, 4, 5, 6, 0, 1, 2, 3, 4, 5, 6, 0, 1, 2, 3, 4, 5, 6, 0, 1, 2, 3, 4, 5, 6, 0, 1, 2, 3, 4, 5, 6, 0, 1, 2, 3, 4, 5, 6], [], [], [], [], [], [], [], [], []],
  [[], [], [], [], [], [], [], [], [], [], [], [], [128, 0, 0, 0, 0, 0, 0, 0, 0, 0, 0, 0, 0, 0, 0, 0, 0, 0, 0, 0, 0, 0, 0, 0, 0, 0, 0, 0, 0, 0, 0, 0, 0, 0, 0, 0, 0, 0, 0, 0, 0, 0, 0, 0, 0, 0, 0, 0, 0, 0, 0, 0, 0, 0, 0, 0, 0, 0, 0, 0, 0, 0, 0, 0], [], [], [], [], [], [], [], [], [], [], [], [], [], [], [], [], [], [], [], [], [], [], [], [], [], [], [], [], [], [], [], [], [], [], [], [], [], [], [], [], [], [], [], [], [], [], [], [], [], [], [], [], [], [], [], [], [], [], []],
  [[some 1, some 3, some 11, some 13, some 14, some 21, some 28, some 35], [some 2], [], [some 4, some 8, some 9, some 10], [some 5, some 6, some 7], [], [], [], [some 1], [], [], [none, some 12], [], [], [some 15, some 16, some 17, some 18, some 19, some 20, some 11], [], [], [], [], [], [], [some 22, none, some 14, some 23, some 24, some 25, some 26, some 27, none, none, none, none, none, none, some 11], [], [], [], [], [], [], [some 29, none, some 30, some 31, some 32, some 33, some 34], [], [], [], [], [], [], [some 36, some 37, some 38], [], [], [], [none, some 40, none, none, none, none, none, none, none, none, none, none, none, none, none, none, some 41, some 42, some 43, some 44, some 45, some 46, some 47, some 48, some 49, some 50, none, none, none, none, none, some 51, some 52, none, some 53, none, none, none, some 54, some 55, some 56, some 57, some 58, some 59, some 60, some 61, none, none, none, none, none, none, none, some 62, some 63, some 64, some 65, some 66, some 67, none, some 68, some 69, some 70], [], [], [], [], [], [], [], [], [], [], [], [], [], [], [], [], [], [], [], [], [], [], [], [], [], [], [], [], [], [], [], []])
def xf_lv : List (Nat × Value) := [(4, .int 0), (3, .ref 71), (2, .ref 39), (1, .ref 0), (0, .float 0)]
set_option maxRecDepth 100000 in
theorem xf_pre : xu_b (xe_u xM xC none 23 3000 12 xi_L_law xmi_L_law (0, [(0, .float 0)], [], ([], [], [], []), 0, 0)) (23, xf_lv, [], xf_h, 72, 274345) = true := by decide +kernel
def a_eb (h : xh_H) (c k : Nat) (e : Nat × Int × Int) : Bool := match e.1 with
  | 0 => decide (e.2.1 ≤ (xg 0 h.2.1 c k).toInt) && decide ((xg 0 h.2.1 c k).toInt ≤ e.2.2)
  | 1 => decide (e.2.1 ≤ (xg 0 h.2.2.1 c k).toInt) && decide ((xg 0 h.2.2.1 c k).toInt ≤ e.2.2)
  | 2 => (match xg none h.2.2.2 c k with
    | some q => Nat.blt q h.1.length && Nat.beq (a_tg q) e.2.1.toNat
    | none => false)
  | 3 => (match xg none h.2.2.2 c k with
    | some q => Nat.blt q h.1.length && Nat.beq (a_tg q) e.2.1.toNat
    | none => true)
  | _ => true
theorem a_eb_ok {h : xh_H} {c k : Nat} {e : Nat × Int × Int} (he : a_eb h c k e = true) : a_e h c k e := by
  unfold a_eb at he
  unfold a_e
  split at he
  · rename_i e0
    obtain ⟨g1, g2⟩ := xw_bb he
    rw [e0]
    exact ⟨of_decide_eq_true g1, of_decide_eq_true g2⟩
  · rename_i e0
    obtain ⟨g1, g2⟩ := xw_bb he
    rw [e0]
    exact ⟨of_decide_eq_true g1, of_decide_eq_true g2⟩
  · rename_i e0
    rw [e0]
    split at he
    · rename_i q hq
      obtain ⟨g1, g2⟩ := xw_bb he
      exact ⟨q, hq, Nat.blt_eq.mp g1, xw_beq g2⟩
    · cases he
  · rename_i e0
    rw [e0]
    intro q hq
    rw [hq] at he
    obtain ⟨g1, g2⟩ := xw_bb he
    exact ⟨Nat.blt_eq.mp g1, xw_beq g2⟩
  · split <;> first | trivial | (exfalso; rename_i n0 n1 n2 n3 x e0; first | exact n0 e0 | exact n1 e0 | exact n2 e0 | exact n3 e0)
/-- every element of an array: those that are listed, and what lies behind them -/
def a_rb (h : xh_H) (c : Nat) (e : Nat × Int × Int) : Bool := (List.range ((h.2.1.getD c []).length + ((h.2.2.1.getD c []).length + ((h.2.2.2.getD c []).length + 1)))).all fun k => a_eb h c k e
theorem xg_far {α : Type} {z : α} {L : List (List α)} {c k : Nat} (h : (L.getD c []).length ≤ k) : xg z L c k = z := by
  unfold xg
  rw [List.getD_eq_getElem?_getD, List.getElem?_eq_none h]
  rfl
theorem a_rb_ok {h : xh_H} {c : Nat} {e : Nat × Int × Int} (he : a_rb h c e = true) : ∀ k, a_e h c k e := by
  intro k
  unfold a_rb at he
  by_cases hk : k < (h.2.1.getD c []).length + ((h.2.2.1.getD c []).length + ((h.2.2.2.getD c []).length + 1))
  · exact a_eb_ok (List.all_eq_true.mp he k (List.mem_range.mpr hk))
  · have g := a_eb_ok (List.all_eq_true.mp he ((h.2.1.getD c []).length + ((h.2.2.1.getD c []).length + (h.2.2.2.getD c []).length)) (List.mem_range.mpr (by omega)))
    unfold a_e at g ⊢
    rw [xg_far (L := h.2.1) (by omega), xg_far (L := h.2.2.1) (by omega), xg_far (L := h.2.2.2) (by omega)] at g ⊢
    exact g
def a_cb0 (tb : aT) (h : xh_H) (c : Nat) : Bool := match h.1[c]? with
  | some s => decide (a_sh[a_tg c]? = some s) && (match s.1 with
    | 0 => (List.range (xh_N s.2)).all fun k => a_eb h c k (a_ent tb s (a_tg c) k)
    | _ => a_rb h c (a_ent tb s (a_tg c) 0))
  | none => true
theorem a_inv_of {tb : aT} {h : xh_H} (hb : ((List.range h.1.length).all (a_cb0 tb h)) = true) : a_inw tb h := by
  intro c s hc
  have hl := (List.getElem?_eq_some_iff.mp hc).1
  have g := List.all_eq_true.mp hb c (List.mem_range.mpr hl)
  unfold a_cb0 at g
  rw [hc] at g
  dsimp only at g
  obtain ⟨g1, g2⟩ := xw_bb g
  refine ⟨of_decide_eq_true g1, fun k hk => ?_⟩
  obtain ⟨s1, s2⟩ := s
  dsimp only at g2
  split at g2
  · exact a_eb_ok (List.all_eq_true.mp g2 k (List.mem_range.mpr hk))
  · rename_i hn
    have e : a_ent tb (s1, s2) (a_tg c) k = a_ent tb (s1, s2) (a_tg c) 0 := a_ent0 (fun z => hn z)
    rw [e]
    exact a_rb_ok g2 k
set_option maxRecDepth 100000 in
/-- the fresh heap keeps the bounds -/
theorem a_fresh_J : a_J a_tb xf_h := by
  have e1 : (xg 0 xf_h.2.1 39 33).toInt = 0 := by decide +kernel
  have e2 : (xg 0 xf_h.2.1 39 35).toInt = 0 := by decide +kernel
  have e3 : (xg 0 xf_h.2.1 14 7).toInt = 0 := by decide +kernel
  refine ⟨by decide +kernel, fun k hk => ?_, fun s t hs => ?_, fun _ a b c ha => ?_⟩
  · rw [e1] at hk
    omega
  · rw [e2] at hs
    exact absurd hs (Nat.not_lt_zero s)
  · rw [e3] at ha
    omega
theorem a_fresh : a_inv a_tb xf_h := ⟨a_inv_of (by decide +kernel), a_fresh_J⟩
end XFR
