section XRU
def stk (h : xh_H) : List Int32 → Prop
  | [] => True
  | x :: σ => xg 0 h.2.1 7 σ.length = x ∧ stk h σ
theorem stk_u {h : xh_H} {k : Nat} {x : Int32} : ∀ {σ : List Int32}, σ.length ≤ k → stk h σ → stk (xh_ui h 7 k x) σ := by
  intro σ
  induction σ with
  | nil => intro _ _; trivial
  | cons y σ ih =>
    intro hk' s
    have hk' : σ.length + 1 ≤ k := hk'
    exact ⟨(gx_k (by omega)).trans s.1, ih (by omega) s.2⟩
def F7 (c _k : Nat) : Bool := Nat.beq c 7
theorem px1_i {sv nm v : Int32} {c : Nat} {σ : List Int32} {x : List Int32 × Int32} (h : px1 sv (c, v) (σ, nm) = some x) : (c = 0 ∧ σ.length < 64 ∧ x = (((sv >>> (v &&& 31)) &&& Int32.ofInt 1) :: σ, nm)) ∨ (c = 1 ∧ σ.length < 64 ∧ x = (((nm >>> (v &&& 31)) &&& Int32.ofInt 1) :: σ, nm)) ∨ (c = 4 ∧ σ.length < 64 ∧ x = (Int32.ofInt 0 :: σ, nm)) ∨ (∃ a b ρ, σ = a :: b :: ρ ∧ ((c = 2 ∧ x = ((b &&& a) :: ρ, nm)) ∨ (c = 3 ∧ x = ((b ||| a) :: ρ, nm)) ∨ (c = 5 ∧ x = ((b + a * v) :: ρ, nm)))) ∨ ∃ a ρ, σ = a :: ρ ∧ ((c = 6 ∧ x = (bl (xe_c .ge a v) :: ρ, nm)) ∨ (c = 7 ∧ x = (ρ, nm ||| (a <<< (v &&& 31))))) := by
  unfold px1 at h
  split at h
  · rename_i e1 e2; cases e2
    split at h
    · cases h; exact Or.inl ⟨e1, by assumption, rfl⟩
    · cases h
  · rename_i e1 e2; cases e2
    split at h
    · cases h; exact Or.inr (Or.inl ⟨e1, by assumption, rfl⟩)
    · cases h
  · rename_i e1 e2; cases e2; cases h; exact Or.inr (Or.inr (Or.inr (Or.inl ⟨_, _, _, rfl, Or.inl ⟨e1, rfl⟩⟩)))
  · rename_i e1 e2; cases e2; cases h; exact Or.inr (Or.inr (Or.inr (Or.inl ⟨_, _, _, rfl, Or.inr (Or.inl ⟨e1, rfl⟩)⟩)))
  · rename_i e1 e2; cases e2
    split at h
    · cases h; exact Or.inr (Or.inr (Or.inl ⟨e1, by assumption, rfl⟩))
    · cases h
  · rename_i e1 e2; cases e2; cases h; exact Or.inr (Or.inr (Or.inr (Or.inl ⟨_, _, _, rfl, Or.inr (Or.inr ⟨e1, rfl⟩)⟩)))
  · rename_i e1 e2; cases e2; cases h; exact Or.inr (Or.inr (Or.inr (Or.inr ⟨_, _, rfl, Or.inl ⟨e1, rfl⟩⟩)))
  · rename_i e1 e2; cases e2; cases h; exact Or.inr (Or.inr (Or.inr (Or.inr ⟨_, _, rfl, Or.inr ⟨e1, rfl⟩⟩)))
  · cases h
theorem px_c {sv : Int32} {q : Nat × Int32} {c : cdL} {x z : List Int32 × Int32} (h : px sv (q :: c) x = some z) : ∃ w, px1 sv q x = some w ∧ px sv c w = some z := by
  have h : (px1 sv q x).bind (px sv c) = some z := h
  cases e : px1 sv q x with
  | none => rw [e] at h; cases h
  | some w => rw [e] at h; exact ⟨w, rfl, h⟩
theorem nI_d2 {m : Nat} : nI (m + 2) + Int32.ofInt (-1) = nI (m + 1) := nI_dec (m + 1)
set_option maxRecDepth 100000 in
set_option maxHeartbeats 4000000 in
theorem jn2_q {f : Nat} {x y z : Int32} {h : xh_H} (hq : a_rq a_tb h) : xq f xi_X3_join xmi_X3_join 0 [(0, .int 2), (1, .int x), (2, .int y), (3, .int z)] [] h (fun v h' => h = h' ∧ v = some (.int (x &&& y))) := by
  refine xq_n 8 [] [] [.int (x &&& y)] h [false] 8 hq rfl ⟨(by decide), trivial⟩ (fun hq => ?_)
  exact xq_ret rfl rfl rfl ⟨rfl, rfl⟩
set_option maxRecDepth 100000 in
set_option maxHeartbeats 4000000 in
theorem jn3_q {f : Nat} {x y z : Int32} {h : xh_H} (hq : a_rq a_tb h) : xq f xi_X3_join xmi_X3_join 0 [(0, .int 3), (1, .int x), (2, .int y), (3, .int z)] [] h (fun v h' => h = h' ∧ v = some (.int (x ||| y))) := by
  refine xq_n 25 [] [] [.int (x ||| y)] h [true, false] 12 hq rfl ⟨(by decide), (by decide), trivial⟩ (fun hq => ?_)
  exact xq_ret rfl rfl rfl ⟨rfl, rfl⟩
set_option maxRecDepth 100000 in
set_option maxHeartbeats 4000000 in
theorem jn5_q {f : Nat} {x y z : Int32} {h : xh_H} (hq : a_rq a_tb h) : xq f xi_X3_join xmi_X3_join 0 [(0, .int 5), (1, .int x), (2, .int y), (3, .int z)] [] h (fun v h' => h = h' ∧ v = some (.int (x + y * z))) := by
  refine xq_n 25 [] [] [.int (x + (y * z))] h [true, true] 13 hq rfl ⟨(by decide), (by decide), trivial⟩ (fun hq => ?_)
  exact xq_ret rfl rfl rfl ⟨rfl, rfl⟩
set_option maxRecDepth 100000 in
set_option maxHeartbeats 4000000 in
theorem run_0 {g i m : Nat} {sv nm v : Int32} {P : cdL} {σ : List Int32} {h hb : xh_H} {Q : Option Value → xh_H → Prop} (hq : a_rq a_tb h) (ge : fx F7 fN hb h) (pt : ptx h P) (hi : i < P.length) (l4 : P.length < 400) (hc : xg 0 h.2.1 5 i = 0 ∧ xg 0 h.2.1 6 i = v) (hm : σ.length = m) (m64 : m < 64) (ss : stk h σ) (K : ∀ h', a_rq a_tb h' → fx F7 fN hb h' → ptx h' P → stk h' (((sv >>> (v &&& 31)) &&& Int32.ofInt 1) :: σ) → xq g xi_X3_run xmi_X3_run 7 [(0, .ref 4), (1, .int sv), (2, .int nm), (3, .int (nI (m + 1))), (4, .int (nI (i + 1)))] [] h' Q) : xq (g + 1) xi_X3_run xmi_X3_run 7 [(0, .ref 4), (1, .int sv), (2, .int nm), (3, .int (nI m)), (4, .int (nI i))] [] h Q := by
  cases c1 : xe_c .ge (nI i) (nI (P.length)) with
  | true =>
    have z1 : i ≥ (P.length) := nq_get (a := i) (b := (P.length)) (by omega) (by omega) c1
    omega
  | false =>
    have z1 : i < (P.length) := nq_gef (a := i) (b := (P.length)) (by omega) (by omega) c1
    refine xq_m 82 [0, 1, 2, 3, 4, 5, 6, 7] [(0, .ref 4), (1, .int sv), (2, .int nm), (3, .int (nI m)), (4, .int (nI i)), (5, .int (xg 0 h.2.1 5 ((nI i).toNatClampNeg))), (6, .int (xg 0 h.2.1 6 ((nI i).toNatClampNeg))), (7, .int ((sv >>> ((xg 0 h.2.1 6 ((nI i).toNatClampNeg)) &&& 31)) &&& (Int32.ofInt 1)))] [.int ((sv >>> ((xg 0 h.2.1 6 ((nI i).toNatClampNeg)) &&& 31)) &&& (Int32.ofInt 1)), .int (nI m), .ref 4] h [false, true, true, false] 33 hq rfl ⟨(show xe_c .ge (nI i) (xg 0 h.2.1 4 3) = false by rw [show (xg 0 h.2.1 4 3) = (nI (P.length)) from pt.1]; exact c1), (show xe_c .eq (xg 0 h.2.1 5 ((nI i).toNatClampNeg)) 0 = true by rw [show (xg 0 h.2.1 5 ((nI i).toNatClampNeg)) = 0 from (by rw [show ((nI i).toNatClampNeg) = i from nI_clamp (by omega)]; exact hc.1)]; rfl), (show xe_c .ne (xg 0 h.2.1 5 ((nI i).toNatClampNeg)) (Int32.ofInt 4) = true by rw [show (xg 0 h.2.1 5 ((nI i).toNatClampNeg)) = 0 from (by rw [show ((nI i).toNatClampNeg) = i from nI_clamp (by omega)]; exact hc.1)]; rfl), (show xe_c .ne (xg 0 h.2.1 5 ((nI i).toNatClampNeg)) 0 = false by rw [show (xg 0 h.2.1 5 ((nI i).toNatClampNeg)) = 0 from (by rw [show ((nI i).toNatClampNeg) = i from nI_clamp (by omega)]; exact hc.1)]; rfl), trivial⟩ (fun hq => ?_)
    rw [show (xg 0 h.2.1 5 ((nI i).toNatClampNeg)) = 0 from (by rw [show ((nI i).toNatClampNeg) = i from nI_clamp (by omega)]; exact hc.1)]
    rw [show (xg 0 h.2.1 6 ((nI i).toNatClampNeg)) = v from (by rw [show ((nI i).toNatClampNeg) = i from nI_clamp (by omega)]; exact hc.2)]
    refine xq_run hq rfl rfl (psh_q (d := m) (Nat.zero_le _) (by omega) hq) ?_
    rintro v2 h2 ⟨rfl, rfl⟩
    have hq : a_rq a_tb (xh_ui h 7 m ((sv >>> ((v) &&& 31)) &&& (Int32.ofInt 1))) := a_rq_ui hq
    refine xq_n 7 [0, 1, 2, 3, 4] [(0, .ref 4), (1, .int sv), (2, .int nm), (3, .int (nI (m + 1))), (4, .int ((nI i) + Int32.ofInt 1))] [] (xh_ui h 7 m ((sv >>> ((v) &&& 31)) &&& (Int32.ofInt 1))) [] 6 hq rfl trivial (fun hq => ?_)
    rw [show ((nI i) + Int32.ofInt 1) = nI (i + 1) from nI_1 _]
    exact K _ hq (fx_ui (ge) rfl) (ptx_f (S := fun c _ => Nat.beq c 7) (L := fN) (pt) (fx_ui fx_0 rfl) rfl (fun _ => rfl) (fun _ => rfl)) (⟨by rw [hm]; exact gx_s, stk_u (by omega) ss⟩)
set_option maxRecDepth 100000 in
set_option maxHeartbeats 4000000 in
theorem run_1 {g i m : Nat} {sv nm v : Int32} {P : cdL} {σ : List Int32} {h hb : xh_H} {Q : Option Value → xh_H → Prop} (hq : a_rq a_tb h) (ge : fx F7 fN hb h) (pt : ptx h P) (hi : i < P.length) (l4 : P.length < 400) (hc : xg 0 h.2.1 5 i = 1 ∧ xg 0 h.2.1 6 i = v) (hm : σ.length = m) (m64 : m < 64) (ss : stk h σ) (K : ∀ h', a_rq a_tb h' → fx F7 fN hb h' → ptx h' P → stk h' (((nm >>> (v &&& 31)) &&& Int32.ofInt 1) :: σ) → xq g xi_X3_run xmi_X3_run 7 [(0, .ref 4), (1, .int sv), (2, .int nm), (3, .int (nI (m + 1))), (4, .int (nI (i + 1)))] [] h' Q) : xq (g + 1) xi_X3_run xmi_X3_run 7 [(0, .ref 4), (1, .int sv), (2, .int nm), (3, .int (nI m)), (4, .int (nI i))] [] h Q := by
  cases c1 : xe_c .ge (nI i) (nI (P.length)) with
  | true =>
    have z1 : i ≥ (P.length) := nq_get (a := i) (b := (P.length)) (by omega) (by omega) c1
    omega
  | false =>
    have z1 : i < (P.length) := nq_gef (a := i) (b := (P.length)) (by omega) (by omega) c1
    refine xq_m 82 [0, 1, 2, 3, 4, 5, 6, 7] [(0, .ref 4), (1, .int sv), (2, .int nm), (3, .int (nI m)), (4, .int (nI i)), (5, .int (xg 0 h.2.1 5 ((nI i).toNatClampNeg))), (6, .int (xg 0 h.2.1 6 ((nI i).toNatClampNeg))), (7, .int ((nm >>> ((xg 0 h.2.1 6 ((nI i).toNatClampNeg)) &&& 31)) &&& (Int32.ofInt 1)))] [.int ((nm >>> ((xg 0 h.2.1 6 ((nI i).toNatClampNeg)) &&& 31)) &&& (Int32.ofInt 1)), .int (nI m), .ref 4] h [false, false, true, true, true] 35 hq rfl ⟨(show xe_c .ge (nI i) (xg 0 h.2.1 4 3) = false by rw [show (xg 0 h.2.1 4 3) = (nI (P.length)) from pt.1]; exact c1), (show xe_c .eq (xg 0 h.2.1 5 ((nI i).toNatClampNeg)) 0 = false by rw [show (xg 0 h.2.1 5 ((nI i).toNatClampNeg)) = 1 from (by rw [show ((nI i).toNatClampNeg) = i from nI_clamp (by omega)]; exact hc.1)]; rfl), (show xe_c .eq (xg 0 h.2.1 5 ((nI i).toNatClampNeg)) (Int32.ofInt 1) = true by rw [show (xg 0 h.2.1 5 ((nI i).toNatClampNeg)) = 1 from (by rw [show ((nI i).toNatClampNeg) = i from nI_clamp (by omega)]; exact hc.1)]; rfl), (show xe_c .ne (xg 0 h.2.1 5 ((nI i).toNatClampNeg)) (Int32.ofInt 4) = true by rw [show (xg 0 h.2.1 5 ((nI i).toNatClampNeg)) = 1 from (by rw [show ((nI i).toNatClampNeg) = i from nI_clamp (by omega)]; exact hc.1)]; rfl), (show xe_c .ne (xg 0 h.2.1 5 ((nI i).toNatClampNeg)) 0 = true by rw [show (xg 0 h.2.1 5 ((nI i).toNatClampNeg)) = 1 from (by rw [show ((nI i).toNatClampNeg) = i from nI_clamp (by omega)]; exact hc.1)]; rfl), trivial⟩ (fun hq => ?_)
    rw [show (xg 0 h.2.1 5 ((nI i).toNatClampNeg)) = 1 from (by rw [show ((nI i).toNatClampNeg) = i from nI_clamp (by omega)]; exact hc.1)]
    rw [show (xg 0 h.2.1 6 ((nI i).toNatClampNeg)) = v from (by rw [show ((nI i).toNatClampNeg) = i from nI_clamp (by omega)]; exact hc.2)]
    refine xq_run hq rfl rfl (psh_q (d := m) (Nat.zero_le _) (by omega) hq) ?_
    rintro v2 h2 ⟨rfl, rfl⟩
    have hq : a_rq a_tb (xh_ui h 7 m ((nm >>> ((v) &&& 31)) &&& (Int32.ofInt 1))) := a_rq_ui hq
    refine xq_n 7 [0, 1, 2, 3, 4] [(0, .ref 4), (1, .int sv), (2, .int nm), (3, .int (nI (m + 1))), (4, .int ((nI i) + Int32.ofInt 1))] [] (xh_ui h 7 m ((nm >>> ((v) &&& 31)) &&& (Int32.ofInt 1))) [] 6 hq rfl trivial (fun hq => ?_)
    rw [show ((nI i) + Int32.ofInt 1) = nI (i + 1) from nI_1 _]
    exact K _ hq (fx_ui (ge) rfl) (ptx_f (S := fun c _ => Nat.beq c 7) (L := fN) (pt) (fx_ui fx_0 rfl) rfl (fun _ => rfl) (fun _ => rfl)) (⟨by rw [hm]; exact gx_s, stk_u (by omega) ss⟩)
set_option maxRecDepth 100000 in
set_option maxHeartbeats 4000000 in
theorem run_4 {g i m : Nat} {sv nm v : Int32} {P : cdL} {σ : List Int32} {h hb : xh_H} {Q : Option Value → xh_H → Prop} (hq : a_rq a_tb h) (ge : fx F7 fN hb h) (pt : ptx h P) (hi : i < P.length) (l4 : P.length < 400) (hc : xg 0 h.2.1 5 i = 4 ∧ xg 0 h.2.1 6 i = v) (hm : σ.length = m) (m64 : m < 64) (ss : stk h σ) (K : ∀ h', a_rq a_tb h' → fx F7 fN hb h' → ptx h' P → stk h' (Int32.ofInt 0 :: σ) → xq g xi_X3_run xmi_X3_run 7 [(0, .ref 4), (1, .int sv), (2, .int nm), (3, .int (nI (m + 1))), (4, .int (nI (i + 1)))] [] h' Q) : xq (g + 1) xi_X3_run xmi_X3_run 7 [(0, .ref 4), (1, .int sv), (2, .int nm), (3, .int (nI m)), (4, .int (nI i))] [] h Q := by
  cases c1 : xe_c .ge (nI i) (nI (P.length)) with
  | true =>
    have z1 : i ≥ (P.length) := nq_get (a := i) (b := (P.length)) (by omega) (by omega) c1
    omega
  | false =>
    have z1 : i < (P.length) := nq_gef (a := i) (b := (P.length)) (by omega) (by omega) c1
    refine xq_m 82 [0, 1, 2, 3, 4, 5, 6, 7] [(0, .ref 4), (1, .int sv), (2, .int nm), (3, .int (nI m)), (4, .int (nI i)), (5, .int (xg 0 h.2.1 5 ((nI i).toNatClampNeg))), (6, .int (xg 0 h.2.1 6 ((nI i).toNatClampNeg))), (7, .int (Int32.ofInt 0))] [.int (Int32.ofInt 0), .int (nI m), .ref 4] h [false, false, false, false, false] 33 hq rfl ⟨(show xe_c .ge (nI i) (xg 0 h.2.1 4 3) = false by rw [show (xg 0 h.2.1 4 3) = (nI (P.length)) from pt.1]; exact c1), (show xe_c .eq (xg 0 h.2.1 5 ((nI i).toNatClampNeg)) 0 = false by rw [show (xg 0 h.2.1 5 ((nI i).toNatClampNeg)) = 4 from (by rw [show ((nI i).toNatClampNeg) = i from nI_clamp (by omega)]; exact hc.1)]; rfl), (show xe_c .eq (xg 0 h.2.1 5 ((nI i).toNatClampNeg)) (Int32.ofInt 1) = false by rw [show (xg 0 h.2.1 5 ((nI i).toNatClampNeg)) = 4 from (by rw [show ((nI i).toNatClampNeg) = i from nI_clamp (by omega)]; exact hc.1)]; rfl), (show xe_c .ne (xg 0 h.2.1 5 ((nI i).toNatClampNeg)) (Int32.ofInt 4) = false by rw [show (xg 0 h.2.1 5 ((nI i).toNatClampNeg)) = 4 from (by rw [show ((nI i).toNatClampNeg) = i from nI_clamp (by omega)]; exact hc.1)]; rfl), (show xe_c .ne (xg 0 h.2.1 5 ((nI i).toNatClampNeg)) (Int32.ofInt 4) = false by rw [show (xg 0 h.2.1 5 ((nI i).toNatClampNeg)) = 4 from (by rw [show ((nI i).toNatClampNeg) = i from nI_clamp (by omega)]; exact hc.1)]; rfl), trivial⟩ (fun hq => ?_)
    rw [show (xg 0 h.2.1 5 ((nI i).toNatClampNeg)) = 4 from (by rw [show ((nI i).toNatClampNeg) = i from nI_clamp (by omega)]; exact hc.1)]
    rw [show (xg 0 h.2.1 6 ((nI i).toNatClampNeg)) = v from (by rw [show ((nI i).toNatClampNeg) = i from nI_clamp (by omega)]; exact hc.2)]
    refine xq_run hq rfl rfl (psh_q (d := m) (Nat.zero_le _) (by omega) hq) ?_
    rintro v2 h2 ⟨rfl, rfl⟩
    have hq : a_rq a_tb (xh_ui h 7 m (Int32.ofInt 0)) := a_rq_ui hq
    refine xq_n 7 [0, 1, 2, 3, 4] [(0, .ref 4), (1, .int sv), (2, .int nm), (3, .int (nI (m + 1))), (4, .int ((nI i) + Int32.ofInt 1))] [] (xh_ui h 7 m (Int32.ofInt 0)) [] 6 hq rfl trivial (fun hq => ?_)
    rw [show ((nI i) + Int32.ofInt 1) = nI (i + 1) from nI_1 _]
    exact K _ hq (fx_ui (ge) rfl) (ptx_f (S := fun c _ => Nat.beq c 7) (L := fN) (pt) (fx_ui fx_0 rfl) rfl (fun _ => rfl) (fun _ => rfl)) (⟨by rw [hm]; exact gx_s, stk_u (by omega) ss⟩)
set_option maxRecDepth 100000 in
set_option maxHeartbeats 4000000 in
theorem run_2 {g i m : Nat} {sv nm v a b : Int32} {P : cdL} {ρ : List Int32} {h hb : xh_H} {Q : Option Value → xh_H → Prop} (hq : a_rq a_tb h) (ge : fx F7 fN hb h) (pt : ptx h P) (hi : i < P.length) (l4 : P.length < 400) (hc : xg 0 h.2.1 5 i = 2 ∧ xg 0 h.2.1 6 i = v) (hm : ρ.length = m) (m64 : m + 2 ≤ 64) (ss : stk h (a :: b :: ρ)) (K : ∀ h', a_rq a_tb h' → fx F7 fN hb h' → ptx h' P → stk h' ((b &&& a) :: ρ) → xq g xi_X3_run xmi_X3_run 7 [(0, .ref 4), (1, .int sv), (2, .int nm), (3, .int (nI (m + 1))), (4, .int (nI (i + 1)))] [] h' Q) : xq (g + 1) xi_X3_run xmi_X3_run 7 [(0, .ref 4), (1, .int sv), (2, .int nm), (3, .int (nI (m + 2))), (4, .int (nI i))] [] h Q := by
  cases c1 : xe_c .ge (nI i) (nI (P.length)) with
  | true =>
    have z1 : i ≥ (P.length) := nq_get (a := i) (b := (P.length)) (by omega) (by omega) c1
    omega
  | false =>
    have z1 : i < (P.length) := nq_gef (a := i) (b := (P.length)) (by omega) (by omega) c1
    refine xq_m 121 [0, 1, 2, 3, 4, 5, 6] [(0, .ref 4), (1, .int sv), (2, .int nm), (3, .int (nI (m + 2))), (4, .int (nI i)), (5, .int (xg 0 h.2.1 5 ((nI i).toNatClampNeg))), (6, .int (xg 0 h.2.1 6 ((nI i).toNatClampNeg)))] [.int (nI (m + 2)), .ref 4] h [false, false, false, true, true] 29 hq rfl ⟨(show xe_c .ge (nI i) (xg 0 h.2.1 4 3) = false by rw [show (xg 0 h.2.1 4 3) = (nI (P.length)) from pt.1]; exact c1), (show xe_c .eq (xg 0 h.2.1 5 ((nI i).toNatClampNeg)) 0 = false by rw [show (xg 0 h.2.1 5 ((nI i).toNatClampNeg)) = 2 from (by rw [show ((nI i).toNatClampNeg) = i from nI_clamp (by omega)]; exact hc.1)]; rfl), (show xe_c .eq (xg 0 h.2.1 5 ((nI i).toNatClampNeg)) (Int32.ofInt 1) = false by rw [show (xg 0 h.2.1 5 ((nI i).toNatClampNeg)) = 2 from (by rw [show ((nI i).toNatClampNeg) = i from nI_clamp (by omega)]; exact hc.1)]; rfl), (show xe_c .ne (xg 0 h.2.1 5 ((nI i).toNatClampNeg)) (Int32.ofInt 4) = true by rw [show (xg 0 h.2.1 5 ((nI i).toNatClampNeg)) = 2 from (by rw [show ((nI i).toNatClampNeg) = i from nI_clamp (by omega)]; exact hc.1)]; rfl), (show xe_c .ne (xg 0 h.2.1 5 ((nI i).toNatClampNeg)) 6 = true by rw [show (xg 0 h.2.1 5 ((nI i).toNatClampNeg)) = 2 from (by rw [show ((nI i).toNatClampNeg) = i from nI_clamp (by omega)]; exact hc.1)]; rfl), trivial⟩ (fun hq => ?_)
    rw [show (xg 0 h.2.1 5 ((nI i).toNatClampNeg)) = 2 from (by rw [show ((nI i).toNatClampNeg) = i from nI_clamp (by omega)]; exact hc.1)]
    rw [show (xg 0 h.2.1 6 ((nI i).toNatClampNeg)) = v from (by rw [show ((nI i).toNatClampNeg) = i from nI_clamp (by omega)]; exact hc.2)]
    refine xq_run hq rfl rfl (pek_q (d := (m + 2)) (by omega) (by omega) hq) ?_
    rintro v2 h2 ⟨rfl, rfl⟩
    rw [show xg 0 h.2.1 7 ((m + 2) - 1) = a from ((hm ▸ ss.1))]
    refine xq_n 153 [0, 1, 2, 3, 4, 5, 6, 7] [(0, .ref 4), (1, .int sv), (2, .int nm), (3, .int ((nI (m + 2)) + Int32.ofInt (-1))), (4, .int (nI i)), (5, .int 2), (6, .int v), (7, .int a)] [.int ((nI (m + 2)) + Int32.ofInt (-1)), .ref 4, .int 2, .int ((nI (m + 2)) + Int32.ofInt (-1)), .ref 4] h [true] 12 hq rfl ⟨(by decide), trivial⟩ (fun hq => ?_)
    rw [show ((nI (m + 2)) + Int32.ofInt (-1)) = nI (m + 1) from nI_d2]
    refine xq_run hq rfl rfl (pek_q (d := (m + 1)) (by omega) (by omega) hq) ?_
    rintro v3 h3 ⟨rfl, rfl⟩
    rw [show xg 0 h.2.1 7 ((m + 1) - 1) = b from ((hm ▸ ss.2.1))]
    refine xq_n 160 [0, 1, 2, 3, 4, 5, 6, 7] [(0, .ref 4), (1, .int sv), (2, .int nm), (3, .int (nI (m + 1))), (4, .int (nI i)), (5, .int 2), (6, .int v), (7, .int a)] [.int v, .int a, .int b, .int 2, .int (nI (m + 1)), .ref 4] h [] 4 hq rfl trivial (fun hq => ?_)
    refine xq_run hq rfl rfl (jn2_q hq) ?_
    rintro v4 h_v4 ⟨rfl, rfl⟩
    refine xq_run hq rfl rfl (rpl_q (d := (m + 1)) (by omega) (by omega) hq) ?_
    rintro v5 h5 ⟨rfl, rfl⟩
    rw [show (m + 1) - 1 = m from rfl]
    have hq : a_rq a_tb (xh_ui h 7 m (b &&& a)) := a_rq_ui hq
    refine xq_n 7 [0, 1, 2, 3, 4] [(0, .ref 4), (1, .int sv), (2, .int nm), (3, .int (nI (m + 1))), (4, .int ((nI i) + Int32.ofInt 1))] [] (xh_ui h 7 m (b &&& a)) [] 4 hq rfl trivial (fun hq => ?_)
    rw [show ((nI i) + Int32.ofInt 1) = nI (i + 1) from nI_1 _]
    exact K _ hq (fx_ui (ge) rfl) (ptx_f (S := fun c _ => Nat.beq c 7) (L := fN) (pt) (fx_ui fx_0 rfl) rfl (fun _ => rfl) (fun _ => rfl)) (⟨by rw [hm]; exact gx_s, stk_u (by omega) ss.2.2⟩)
set_option maxRecDepth 100000 in
set_option maxHeartbeats 4000000 in
theorem run_3 {g i m : Nat} {sv nm v a b : Int32} {P : cdL} {ρ : List Int32} {h hb : xh_H} {Q : Option Value → xh_H → Prop} (hq : a_rq a_tb h) (ge : fx F7 fN hb h) (pt : ptx h P) (hi : i < P.length) (l4 : P.length < 400) (hc : xg 0 h.2.1 5 i = 3 ∧ xg 0 h.2.1 6 i = v) (hm : ρ.length = m) (m64 : m + 2 ≤ 64) (ss : stk h (a :: b :: ρ)) (K : ∀ h', a_rq a_tb h' → fx F7 fN hb h' → ptx h' P → stk h' ((b ||| a) :: ρ) → xq g xi_X3_run xmi_X3_run 7 [(0, .ref 4), (1, .int sv), (2, .int nm), (3, .int (nI (m + 1))), (4, .int (nI (i + 1)))] [] h' Q) : xq (g + 1) xi_X3_run xmi_X3_run 7 [(0, .ref 4), (1, .int sv), (2, .int nm), (3, .int (nI (m + 2))), (4, .int (nI i))] [] h Q := by
  cases c1 : xe_c .ge (nI i) (nI (P.length)) with
  | true =>
    have z1 : i ≥ (P.length) := nq_get (a := i) (b := (P.length)) (by omega) (by omega) c1
    omega
  | false =>
    have z1 : i < (P.length) := nq_gef (a := i) (b := (P.length)) (by omega) (by omega) c1
    refine xq_m 121 [0, 1, 2, 3, 4, 5, 6] [(0, .ref 4), (1, .int sv), (2, .int nm), (3, .int (nI (m + 2))), (4, .int (nI i)), (5, .int (xg 0 h.2.1 5 ((nI i).toNatClampNeg))), (6, .int (xg 0 h.2.1 6 ((nI i).toNatClampNeg)))] [.int (nI (m + 2)), .ref 4] h [false, false, false, true, true] 29 hq rfl ⟨(show xe_c .ge (nI i) (xg 0 h.2.1 4 3) = false by rw [show (xg 0 h.2.1 4 3) = (nI (P.length)) from pt.1]; exact c1), (show xe_c .eq (xg 0 h.2.1 5 ((nI i).toNatClampNeg)) 0 = false by rw [show (xg 0 h.2.1 5 ((nI i).toNatClampNeg)) = 3 from (by rw [show ((nI i).toNatClampNeg) = i from nI_clamp (by omega)]; exact hc.1)]; rfl), (show xe_c .eq (xg 0 h.2.1 5 ((nI i).toNatClampNeg)) (Int32.ofInt 1) = false by rw [show (xg 0 h.2.1 5 ((nI i).toNatClampNeg)) = 3 from (by rw [show ((nI i).toNatClampNeg) = i from nI_clamp (by omega)]; exact hc.1)]; rfl), (show xe_c .ne (xg 0 h.2.1 5 ((nI i).toNatClampNeg)) (Int32.ofInt 4) = true by rw [show (xg 0 h.2.1 5 ((nI i).toNatClampNeg)) = 3 from (by rw [show ((nI i).toNatClampNeg) = i from nI_clamp (by omega)]; exact hc.1)]; rfl), (show xe_c .ne (xg 0 h.2.1 5 ((nI i).toNatClampNeg)) 6 = true by rw [show (xg 0 h.2.1 5 ((nI i).toNatClampNeg)) = 3 from (by rw [show ((nI i).toNatClampNeg) = i from nI_clamp (by omega)]; exact hc.1)]; rfl), trivial⟩ (fun hq => ?_)
    rw [show (xg 0 h.2.1 5 ((nI i).toNatClampNeg)) = 3 from (by rw [show ((nI i).toNatClampNeg) = i from nI_clamp (by omega)]; exact hc.1)]
    rw [show (xg 0 h.2.1 6 ((nI i).toNatClampNeg)) = v from (by rw [show ((nI i).toNatClampNeg) = i from nI_clamp (by omega)]; exact hc.2)]
    refine xq_run hq rfl rfl (pek_q (d := (m + 2)) (by omega) (by omega) hq) ?_
    rintro v2 h2 ⟨rfl, rfl⟩
    rw [show xg 0 h.2.1 7 ((m + 2) - 1) = a from ((hm ▸ ss.1))]
    refine xq_n 153 [0, 1, 2, 3, 4, 5, 6, 7] [(0, .ref 4), (1, .int sv), (2, .int nm), (3, .int ((nI (m + 2)) + Int32.ofInt (-1))), (4, .int (nI i)), (5, .int 3), (6, .int v), (7, .int a)] [.int ((nI (m + 2)) + Int32.ofInt (-1)), .ref 4, .int 3, .int ((nI (m + 2)) + Int32.ofInt (-1)), .ref 4] h [true] 12 hq rfl ⟨(by decide), trivial⟩ (fun hq => ?_)
    rw [show ((nI (m + 2)) + Int32.ofInt (-1)) = nI (m + 1) from nI_d2]
    refine xq_run hq rfl rfl (pek_q (d := (m + 1)) (by omega) (by omega) hq) ?_
    rintro v3 h3 ⟨rfl, rfl⟩
    rw [show xg 0 h.2.1 7 ((m + 1) - 1) = b from ((hm ▸ ss.2.1))]
    refine xq_n 160 [0, 1, 2, 3, 4, 5, 6, 7] [(0, .ref 4), (1, .int sv), (2, .int nm), (3, .int (nI (m + 1))), (4, .int (nI i)), (5, .int 3), (6, .int v), (7, .int a)] [.int v, .int a, .int b, .int 3, .int (nI (m + 1)), .ref 4] h [] 4 hq rfl trivial (fun hq => ?_)
    refine xq_run hq rfl rfl (jn3_q hq) ?_
    rintro v4 h_v4 ⟨rfl, rfl⟩
    refine xq_run hq rfl rfl (rpl_q (d := (m + 1)) (by omega) (by omega) hq) ?_
    rintro v5 h5 ⟨rfl, rfl⟩
    rw [show (m + 1) - 1 = m from rfl]
    have hq : a_rq a_tb (xh_ui h 7 m (b ||| a)) := a_rq_ui hq
    refine xq_n 7 [0, 1, 2, 3, 4] [(0, .ref 4), (1, .int sv), (2, .int nm), (3, .int (nI (m + 1))), (4, .int ((nI i) + Int32.ofInt 1))] [] (xh_ui h 7 m (b ||| a)) [] 4 hq rfl trivial (fun hq => ?_)
    rw [show ((nI i) + Int32.ofInt 1) = nI (i + 1) from nI_1 _]
    exact K _ hq (fx_ui (ge) rfl) (ptx_f (S := fun c _ => Nat.beq c 7) (L := fN) (pt) (fx_ui fx_0 rfl) rfl (fun _ => rfl) (fun _ => rfl)) (⟨by rw [hm]; exact gx_s, stk_u (by omega) ss.2.2⟩)
set_option maxRecDepth 100000 in
set_option maxHeartbeats 4000000 in
theorem run_5 {g i m : Nat} {sv nm v a b : Int32} {P : cdL} {ρ : List Int32} {h hb : xh_H} {Q : Option Value → xh_H → Prop} (hq : a_rq a_tb h) (ge : fx F7 fN hb h) (pt : ptx h P) (hi : i < P.length) (l4 : P.length < 400) (hc : xg 0 h.2.1 5 i = 5 ∧ xg 0 h.2.1 6 i = v) (hm : ρ.length = m) (m64 : m + 2 ≤ 64) (ss : stk h (a :: b :: ρ)) (K : ∀ h', a_rq a_tb h' → fx F7 fN hb h' → ptx h' P → stk h' ((b + a * v) :: ρ) → xq g xi_X3_run xmi_X3_run 7 [(0, .ref 4), (1, .int sv), (2, .int nm), (3, .int (nI (m + 1))), (4, .int (nI (i + 1)))] [] h' Q) : xq (g + 1) xi_X3_run xmi_X3_run 7 [(0, .ref 4), (1, .int sv), (2, .int nm), (3, .int (nI (m + 2))), (4, .int (nI i))] [] h Q := by
  cases c1 : xe_c .ge (nI i) (nI (P.length)) with
  | true =>
    have z1 : i ≥ (P.length) := nq_get (a := i) (b := (P.length)) (by omega) (by omega) c1
    omega
  | false =>
    have z1 : i < (P.length) := nq_gef (a := i) (b := (P.length)) (by omega) (by omega) c1
    refine xq_m 121 [0, 1, 2, 3, 4, 5, 6] [(0, .ref 4), (1, .int sv), (2, .int nm), (3, .int (nI (m + 2))), (4, .int (nI i)), (5, .int (xg 0 h.2.1 5 ((nI i).toNatClampNeg))), (6, .int (xg 0 h.2.1 6 ((nI i).toNatClampNeg)))] [.int (nI (m + 2)), .ref 4] h [false, false, false, true, true] 29 hq rfl ⟨(show xe_c .ge (nI i) (xg 0 h.2.1 4 3) = false by rw [show (xg 0 h.2.1 4 3) = (nI (P.length)) from pt.1]; exact c1), (show xe_c .eq (xg 0 h.2.1 5 ((nI i).toNatClampNeg)) 0 = false by rw [show (xg 0 h.2.1 5 ((nI i).toNatClampNeg)) = 5 from (by rw [show ((nI i).toNatClampNeg) = i from nI_clamp (by omega)]; exact hc.1)]; rfl), (show xe_c .eq (xg 0 h.2.1 5 ((nI i).toNatClampNeg)) (Int32.ofInt 1) = false by rw [show (xg 0 h.2.1 5 ((nI i).toNatClampNeg)) = 5 from (by rw [show ((nI i).toNatClampNeg) = i from nI_clamp (by omega)]; exact hc.1)]; rfl), (show xe_c .ne (xg 0 h.2.1 5 ((nI i).toNatClampNeg)) (Int32.ofInt 4) = true by rw [show (xg 0 h.2.1 5 ((nI i).toNatClampNeg)) = 5 from (by rw [show ((nI i).toNatClampNeg) = i from nI_clamp (by omega)]; exact hc.1)]; rfl), (show xe_c .ne (xg 0 h.2.1 5 ((nI i).toNatClampNeg)) 6 = true by rw [show (xg 0 h.2.1 5 ((nI i).toNatClampNeg)) = 5 from (by rw [show ((nI i).toNatClampNeg) = i from nI_clamp (by omega)]; exact hc.1)]; rfl), trivial⟩ (fun hq => ?_)
    rw [show (xg 0 h.2.1 5 ((nI i).toNatClampNeg)) = 5 from (by rw [show ((nI i).toNatClampNeg) = i from nI_clamp (by omega)]; exact hc.1)]
    rw [show (xg 0 h.2.1 6 ((nI i).toNatClampNeg)) = v from (by rw [show ((nI i).toNatClampNeg) = i from nI_clamp (by omega)]; exact hc.2)]
    refine xq_run hq rfl rfl (pek_q (d := (m + 2)) (by omega) (by omega) hq) ?_
    rintro v2 h2 ⟨rfl, rfl⟩
    rw [show xg 0 h.2.1 7 ((m + 2) - 1) = a from ((hm ▸ ss.1))]
    refine xq_n 153 [0, 1, 2, 3, 4, 5, 6, 7] [(0, .ref 4), (1, .int sv), (2, .int nm), (3, .int ((nI (m + 2)) + Int32.ofInt (-1))), (4, .int (nI i)), (5, .int 5), (6, .int v), (7, .int a)] [.int ((nI (m + 2)) + Int32.ofInt (-1)), .ref 4, .int 5, .int ((nI (m + 2)) + Int32.ofInt (-1)), .ref 4] h [true] 12 hq rfl ⟨(by decide), trivial⟩ (fun hq => ?_)
    rw [show ((nI (m + 2)) + Int32.ofInt (-1)) = nI (m + 1) from nI_d2]
    refine xq_run hq rfl rfl (pek_q (d := (m + 1)) (by omega) (by omega) hq) ?_
    rintro v3 h3 ⟨rfl, rfl⟩
    rw [show xg 0 h.2.1 7 ((m + 1) - 1) = b from ((hm ▸ ss.2.1))]
    refine xq_n 160 [0, 1, 2, 3, 4, 5, 6, 7] [(0, .ref 4), (1, .int sv), (2, .int nm), (3, .int (nI (m + 1))), (4, .int (nI i)), (5, .int 5), (6, .int v), (7, .int a)] [.int v, .int a, .int b, .int 5, .int (nI (m + 1)), .ref 4] h [] 4 hq rfl trivial (fun hq => ?_)
    refine xq_run hq rfl rfl (jn5_q hq) ?_
    rintro v4 h_v4 ⟨rfl, rfl⟩
    refine xq_run hq rfl rfl (rpl_q (d := (m + 1)) (by omega) (by omega) hq) ?_
    rintro v5 h5 ⟨rfl, rfl⟩
    rw [show (m + 1) - 1 = m from rfl]
    have hq : a_rq a_tb (xh_ui h 7 m (b + a * v)) := a_rq_ui hq
    refine xq_n 7 [0, 1, 2, 3, 4] [(0, .ref 4), (1, .int sv), (2, .int nm), (3, .int (nI (m + 1))), (4, .int ((nI i) + Int32.ofInt 1))] [] (xh_ui h 7 m (b + a * v)) [] 4 hq rfl trivial (fun hq => ?_)
    rw [show ((nI i) + Int32.ofInt 1) = nI (i + 1) from nI_1 _]
    exact K _ hq (fx_ui (ge) rfl) (ptx_f (S := fun c _ => Nat.beq c 7) (L := fN) (pt) (fx_ui fx_0 rfl) rfl (fun _ => rfl) (fun _ => rfl)) (⟨by rw [hm]; exact gx_s, stk_u (by omega) ss.2.2⟩)
set_option maxRecDepth 100000 in
set_option maxHeartbeats 4000000 in
theorem run_6 {g i m : Nat} {sv nm v a : Int32} {P : cdL} {ρ : List Int32} {h hb : xh_H} {Q : Option Value → xh_H → Prop} (hq : a_rq a_tb h) (ge : fx F7 fN hb h) (pt : ptx h P) (hi : i < P.length) (l4 : P.length < 400) (hc : xg 0 h.2.1 5 i = 6 ∧ xg 0 h.2.1 6 i = v) (hm : ρ.length = m) (m64 : m + 1 ≤ 64) (ss : stk h (a :: ρ)) (K : ∀ h', a_rq a_tb h' → fx F7 fN hb h' → ptx h' P → stk h' (bl (xe_c .ge a v) :: ρ) → xq g xi_X3_run xmi_X3_run 7 [(0, .ref 4), (1, .int sv), (2, .int nm), (3, .int (nI (m + 1))), (4, .int (nI (i + 1)))] [] h' Q) : xq (g + 1) xi_X3_run xmi_X3_run 7 [(0, .ref 4), (1, .int sv), (2, .int nm), (3, .int (nI (m + 1))), (4, .int (nI i))] [] h Q := by
  cases c1 : xe_c .ge (nI i) (nI (P.length)) with
  | true =>
    have z1 : i ≥ (P.length) := nq_get (a := i) (b := (P.length)) (by omega) (by omega) c1
    omega
  | false =>
    have z1 : i < (P.length) := nq_gef (a := i) (b := (P.length)) (by omega) (by omega) c1
    refine xq_m 100 [0, 1, 2, 3, 4, 5, 6] [(0, .ref 4), (1, .int sv), (2, .int nm), (3, .int (nI (m + 1))), (4, .int (nI i)), (5, .int (xg 0 h.2.1 5 ((nI i).toNatClampNeg))), (6, .int (xg 0 h.2.1 6 ((nI i).toNatClampNeg)))] [.int (nI (m + 1)), .ref 4, .int (nI (m + 1)), .ref 4] h [false, false, false, true, false] 31 hq rfl ⟨(show xe_c .ge (nI i) (xg 0 h.2.1 4 3) = false by rw [show (xg 0 h.2.1 4 3) = (nI (P.length)) from pt.1]; exact c1), (show xe_c .eq (xg 0 h.2.1 5 ((nI i).toNatClampNeg)) 0 = false by rw [show (xg 0 h.2.1 5 ((nI i).toNatClampNeg)) = 6 from (by rw [show ((nI i).toNatClampNeg) = i from nI_clamp (by omega)]; exact hc.1)]; rfl), (show xe_c .eq (xg 0 h.2.1 5 ((nI i).toNatClampNeg)) (Int32.ofInt 1) = false by rw [show (xg 0 h.2.1 5 ((nI i).toNatClampNeg)) = 6 from (by rw [show ((nI i).toNatClampNeg) = i from nI_clamp (by omega)]; exact hc.1)]; rfl), (show xe_c .ne (xg 0 h.2.1 5 ((nI i).toNatClampNeg)) (Int32.ofInt 4) = true by rw [show (xg 0 h.2.1 5 ((nI i).toNatClampNeg)) = 6 from (by rw [show ((nI i).toNatClampNeg) = i from nI_clamp (by omega)]; exact hc.1)]; rfl), (show xe_c .ne (xg 0 h.2.1 5 ((nI i).toNatClampNeg)) 6 = false by rw [show (xg 0 h.2.1 5 ((nI i).toNatClampNeg)) = 6 from (by rw [show ((nI i).toNatClampNeg) = i from nI_clamp (by omega)]; exact hc.1)]; rfl), trivial⟩ (fun hq => ?_)
    rw [show (xg 0 h.2.1 5 ((nI i).toNatClampNeg)) = 6 from (by rw [show ((nI i).toNatClampNeg) = i from nI_clamp (by omega)]; exact hc.1)]
    rw [show (xg 0 h.2.1 6 ((nI i).toNatClampNeg)) = v from (by rw [show ((nI i).toNatClampNeg) = i from nI_clamp (by omega)]; exact hc.2)]
    refine xq_run hq rfl rfl (pek_q (d := (m + 1)) (by omega) (by omega) hq) ?_
    rintro v2 h2 ⟨rfl, rfl⟩
    rw [show xg 0 h.2.1 7 ((m + 1) - 1) = a from ((hm ▸ ss.1))]
    cases c3 : xe_c .lt a v with
    | true =>
      refine xq_n 113 [0, 1, 2, 3, 4, 5, 6] [(0, .ref 4), (1, .int sv), (2, .int nm), (3, .int (nI (m + 1))), (4, .int (nI i)), (5, .int 6), (6, .int v)] [.int (Int32.ofInt 0), .int (nI (m + 1)), .ref 4] h [true] 5 hq rfl ⟨c3, trivial⟩ (fun hq => ?_)
      refine xq_run hq rfl rfl (rpl_q (d := (m + 1)) (by omega) (by omega) hq) ?_
      rintro v4 h4 ⟨rfl, rfl⟩
      rw [show (m + 1) - 1 = m from rfl]
      have hq : a_rq a_tb (xh_ui h 7 m (Int32.ofInt 0)) := a_rq_ui hq
      refine xq_n 7 [0, 1, 2, 3, 4] [(0, .ref 4), (1, .int sv), (2, .int nm), (3, .int (nI (m + 1))), (4, .int ((nI i) + Int32.ofInt 1))] [] (xh_ui h 7 m (Int32.ofInt 0)) [] 5 hq rfl trivial (fun hq => ?_)
      rw [show ((nI i) + Int32.ofInt 1) = nI (i + 1) from nI_1 _]
      exact K _ hq (fx_ui (ge) rfl) (ptx_f (S := fun c _ => Nat.beq c 7) (L := fN) (pt) (fx_ui fx_0 rfl) rfl (fun _ => rfl) (fun _ => rfl)) (⟨by rw [hm]; exact (gx_s).trans (b_g1 c3), stk_u (by omega) ss.2⟩)
    | false =>
      refine xq_n 113 [0, 1, 2, 3, 4, 5, 6] [(0, .ref 4), (1, .int sv), (2, .int nm), (3, .int (nI (m + 1))), (4, .int (nI i)), (5, .int 6), (6, .int v)] [.int (Int32.ofInt 1), .int (nI (m + 1)), .ref 4] h [false] 6 hq rfl ⟨c3, trivial⟩ (fun hq => ?_)
      refine xq_run hq rfl rfl (rpl_q (d := (m + 1)) (by omega) (by omega) hq) ?_
      rintro v5 h5 ⟨rfl, rfl⟩
      rw [show (m + 1) - 1 = m from rfl]
      have hq : a_rq a_tb (xh_ui h 7 m (Int32.ofInt 1)) := a_rq_ui hq
      refine xq_n 7 [0, 1, 2, 3, 4] [(0, .ref 4), (1, .int sv), (2, .int nm), (3, .int (nI (m + 1))), (4, .int ((nI i) + Int32.ofInt 1))] [] (xh_ui h 7 m (Int32.ofInt 1)) [] 5 hq rfl trivial (fun hq => ?_)
      rw [show ((nI i) + Int32.ofInt 1) = nI (i + 1) from nI_1 _]
      exact K _ hq (fx_ui (ge) rfl) (ptx_f (S := fun c _ => Nat.beq c 7) (L := fN) (pt) (fx_ui fx_0 rfl) rfl (fun _ => rfl) (fun _ => rfl)) (⟨by rw [hm]; exact (gx_s).trans (b_g2 c3), stk_u (by omega) ss.2⟩)
set_option maxRecDepth 100000 in
set_option maxHeartbeats 4000000 in
theorem run_7 {g i m : Nat} {sv nm v a : Int32} {P : cdL} {ρ : List Int32} {h hb : xh_H} {Q : Option Value → xh_H → Prop} (hq : a_rq a_tb h) (ge : fx F7 fN hb h) (pt : ptx h P) (hi : i < P.length) (l4 : P.length < 400) (hc : xg 0 h.2.1 5 i = 7 ∧ xg 0 h.2.1 6 i = v) (hm : ρ.length = m) (m64 : m + 1 ≤ 64) (ss : stk h (a :: ρ)) (K : ∀ h', a_rq a_tb h' → fx F7 fN hb h' → ptx h' P → stk h' (ρ) → xq g xi_X3_run xmi_X3_run 7 [(0, .ref 4), (1, .int sv), (2, .int (nm ||| (a <<< (v &&& 31)))), (3, .int (nI m)), (4, .int (nI (i + 1)))] [] h' Q) : xq (g + 1) xi_X3_run xmi_X3_run 7 [(0, .ref 4), (1, .int sv), (2, .int nm), (3, .int (nI (m + 1))), (4, .int (nI i))] [] h Q := by
  cases c1 : xe_c .ge (nI i) (nI (P.length)) with
  | true =>
    have z1 : i ≥ (P.length) := nq_get (a := i) (b := (P.length)) (by omega) (by omega) c1
    omega
  | false =>
    have z1 : i < (P.length) := nq_gef (a := i) (b := (P.length)) (by omega) (by omega) c1
    refine xq_m 121 [0, 1, 2, 3, 4, 5, 6] [(0, .ref 4), (1, .int sv), (2, .int nm), (3, .int (nI (m + 1))), (4, .int (nI i)), (5, .int (xg 0 h.2.1 5 ((nI i).toNatClampNeg))), (6, .int (xg 0 h.2.1 6 ((nI i).toNatClampNeg)))] [.int (nI (m + 1)), .ref 4] h [false, false, false, true, true] 29 hq rfl ⟨(show xe_c .ge (nI i) (xg 0 h.2.1 4 3) = false by rw [show (xg 0 h.2.1 4 3) = (nI (P.length)) from pt.1]; exact c1), (show xe_c .eq (xg 0 h.2.1 5 ((nI i).toNatClampNeg)) 0 = false by rw [show (xg 0 h.2.1 5 ((nI i).toNatClampNeg)) = 7 from (by rw [show ((nI i).toNatClampNeg) = i from nI_clamp (by omega)]; exact hc.1)]; rfl), (show xe_c .eq (xg 0 h.2.1 5 ((nI i).toNatClampNeg)) (Int32.ofInt 1) = false by rw [show (xg 0 h.2.1 5 ((nI i).toNatClampNeg)) = 7 from (by rw [show ((nI i).toNatClampNeg) = i from nI_clamp (by omega)]; exact hc.1)]; rfl), (show xe_c .ne (xg 0 h.2.1 5 ((nI i).toNatClampNeg)) (Int32.ofInt 4) = true by rw [show (xg 0 h.2.1 5 ((nI i).toNatClampNeg)) = 7 from (by rw [show ((nI i).toNatClampNeg) = i from nI_clamp (by omega)]; exact hc.1)]; rfl), (show xe_c .ne (xg 0 h.2.1 5 ((nI i).toNatClampNeg)) 6 = true by rw [show (xg 0 h.2.1 5 ((nI i).toNatClampNeg)) = 7 from (by rw [show ((nI i).toNatClampNeg) = i from nI_clamp (by omega)]; exact hc.1)]; rfl), trivial⟩ (fun hq => ?_)
    rw [show (xg 0 h.2.1 5 ((nI i).toNatClampNeg)) = 7 from (by rw [show ((nI i).toNatClampNeg) = i from nI_clamp (by omega)]; exact hc.1)]
    rw [show (xg 0 h.2.1 6 ((nI i).toNatClampNeg)) = v from (by rw [show ((nI i).toNatClampNeg) = i from nI_clamp (by omega)]; exact hc.2)]
    refine xq_run hq rfl rfl (pek_q (d := (m + 1)) (by omega) (by omega) hq) ?_
    rintro v2 h2 ⟨rfl, rfl⟩
    rw [show xg 0 h.2.1 7 ((m + 1) - 1) = a from ((hm ▸ ss.1))]
    refine xq_n 7 [0, 1, 2, 3, 4] [(0, .ref 4), (1, .int sv), (2, .int (nm ||| (a <<< (v &&& 31)))), (3, .int ((nI (m + 1)) + Int32.ofInt (-1))), (4, .int ((nI i) + Int32.ofInt 1))] [] h [false] 16 hq rfl ⟨(by decide), trivial⟩ (fun hq => ?_)
    rw [show ((nI (m + 1)) + Int32.ofInt (-1)) = nI m from nI_dec m]
    rw [show ((nI i) + Int32.ofInt 1) = nI (i + 1) from nI_1 _]
    exact K _ hq (ge) (pt) (ss.2)
set_option maxRecDepth 100000 in
set_option maxHeartbeats 4000000 in
theorem run_lp {sv y nme : Int32} {P : cdL} {hb : xh_H} (l4 : P.length < 400) : ∀ (f i : Nat) (σ : List Int32) (nm : Int32) (h : xh_H), a_rq a_tb h → fx F7 fN hb h → ptx h P → i ≤ P.length → σ.length ≤ 64 → stk h σ → px sv (P.drop i) (σ, nm) = some ([y], nme) → xq f xi_X3_run xmi_X3_run 7 [(0, .ref 4), (1, .int sv), (2, .int nm), (3, .int (nI σ.length)), (4, .int (nI i))] [] h (fun v h' => fx F7 fN hb h' ∧ v = some (.int (bl (!decide (y = 0))))) := by
  intro f
  induction f with
  | zero => intros; exact xq_0
  | succ f ih =>
    intro i σ nm h hq ge pt hi l64 ss hp
    by_cases e : i = P.length
    · rw [e, List.drop_length] at hp
      have hp : (σ, nm) = ([y], nme) := Option.some.inj hp
      cases hp
      refine xq_m 174 [0, 3] [(0, .ref 4), (3, .int (nI 1))] [.int (nI 1), .ref 4] h [true] 7 hq rfl ⟨(show xe_c .ge (nI i) (xg 0 h.2.1 4 3) = true by rw [pt.1]; exact decide_eq_true (by rw [e]; exact Int32.le_refl _)), trivial⟩ (fun hq => ?_)
      refine xq_run hq rfl rfl (pek_q (d := 1) (by decide) (by decide) hq) ?_
      rintro v h1 ⟨rfl, rfl⟩
      rw [show xg 0 h.2.1 7 (1 - 1) = y from ss.1]
      by_cases z : y = 0
      · refine xq_n 185 [] [] [.int (Int32.ofInt 0)] h [true] 4 hq rfl ⟨decide_eq_true z, trivial⟩ (fun hq => ?_)
        exact xq_ret rfl rfl rfl ⟨ge, by rw [decide_eq_true z]; rfl⟩
      · refine xq_n 185 [] [] [.int (Int32.ofInt 1)] h [false] 5 hq rfl ⟨decide_eq_false z, trivial⟩ (fun hq => ?_)
        exact xq_ret rfl rfl rfl ⟨ge, by rw [decide_eq_false z]; rfl⟩
    · have hi : i < P.length := by omega
      rw [List.drop_eq_getElem_cons hi] at hp
      obtain ⟨w, h1, h2⟩ := px_c hp
      have hc := pt.2 i hi
      generalize hw : P[i] = q at h1 hc
      obtain ⟨c, v⟩ := q
      rcases px1_i h1 with ⟨rfl, m64, rfl⟩ | ⟨rfl, m64, rfl⟩ | ⟨rfl, m64, rfl⟩ | ⟨a, b, ρ, rfl, ⟨rfl, rfl⟩ | ⟨rfl, rfl⟩ | ⟨rfl, rfl⟩⟩ | ⟨a, ρ, rfl, ⟨rfl, rfl⟩ | ⟨rfl, rfl⟩⟩
      · exact run_0 (σ := σ) hq ge pt hi l4 hc rfl m64 ss (fun h' hq ge pt ss => ih (i + 1) _ nm h' hq ge pt hi (by show σ.length + 1 ≤ 64; omega) ss h2)
      · exact run_1 (σ := σ) hq ge pt hi l4 hc rfl m64 ss (fun h' hq ge pt ss => ih (i + 1) _ nm h' hq ge pt hi (by show σ.length + 1 ≤ 64; omega) ss h2)
      · exact run_4 (σ := σ) hq ge pt hi l4 hc rfl m64 ss (fun h' hq ge pt ss => ih (i + 1) _ nm h' hq ge pt hi (by show σ.length + 1 ≤ 64; omega) ss h2)
      · exact run_2 (ρ := ρ) hq ge pt hi l4 hc rfl l64 ss (fun h' hq ge pt ss => ih (i + 1) _ nm h' hq ge pt hi (by have l64 : ρ.length + 2 ≤ 64 := l64; show ρ.length + 1 ≤ 64; omega) ss h2)
      · exact run_3 (ρ := ρ) hq ge pt hi l4 hc rfl l64 ss (fun h' hq ge pt ss => ih (i + 1) _ nm h' hq ge pt hi (by have l64 : ρ.length + 2 ≤ 64 := l64; show ρ.length + 1 ≤ 64; omega) ss h2)
      · exact run_5 (ρ := ρ) hq ge pt hi l4 hc rfl l64 ss (fun h' hq ge pt ss => ih (i + 1) _ nm h' hq ge pt hi (by have l64 : ρ.length + 2 ≤ 64 := l64; show ρ.length + 1 ≤ 64; omega) ss h2)
      · exact run_6 (ρ := ρ) hq ge pt hi l4 hc rfl l64 ss (fun h' hq ge pt ss => ih (i + 1) _ nm h' hq ge pt hi (by have l64 : ρ.length + 1 ≤ 64 := l64; show ρ.length + 1 ≤ 64; omega) ss h2)
      · exact run_7 (ρ := ρ) hq ge pt hi l4 hc rfl l64 ss (fun h' hq ge pt ss => ih (i + 1) _ _ h' hq ge pt hi (by have l64 : ρ.length + 1 ≤ 64 := l64; omega) ss h2)
set_option maxRecDepth 100000 in
/-- Program.run -/
theorem run_q {f sv : Nat} {y : Bool} {nme : Int32} {P : cdL} {h : xh_H} (l4 : P.length < 400) (pt : ptx h P) (hp : px (nI sv) P ([], nI 0) = some ([bl y], nme)) (hq : a_rq a_tb h) : xq f xi_X3_run xmi_X3_run 0 [(0, .ref 4), (1, .int (nI sv))] [] h (fun v h' => fx F7 fN h h' ∧ v = some (.int (bl y))) := by
  refine xq_n 7 [0, 1, 2, 3, 4] [(0, .ref 4), (1, .int (nI sv)), (2, .int (Int32.ofInt 0)), (3, .int (Int32.ofInt 0)), (4, .int (Int32.ofInt 0))] [] h [] 8 hq rfl trivial (fun hq => ?_)
  refine xq_mono (run_lp l4 f 0 [] (nI 0) h hq fx_0 pt (Nat.zero_le _) (by decide) trivial (by rw [List.drop_zero]; exact hp)) (fun v h' e => ⟨e.1, e.2.trans ?_⟩)
  cases y <;> rfl
end XRU
