section XFI
theorem xe_o_scr {scr : Option (Nat × (Nat → Int32))} {r : xr_R} {pc : Nat} {lv : List (Nat × Value)} {st : List Value} {h : xh_H} {c s : Nat} {o : xs_S} (he : xe_o none r pc lv st h c s = some o) : xe_o scr r pc lv st h c s = some o := by
  obtain ⟨i, len, ra, rb, rK, ri⟩ := r
  cases i with
  | getstatic _ => exact he
  | laload => exact he
  | iaload =>
    match st, he with
    | .int _ :: .float _ :: _, he => cases he
  | arraylength =>
    match st, he with
    | .float _ :: _, he => cases he
  | _ => cases he
theorem xe_2_scr {scr : Option (Nat × (Nat → Int32))} {nL : Nat} {r : xr_R} {d pc : Nat} {lv : List (Nat × Value)} {st : List Value} {h : xh_H} {c s : Nat} {o : xs_S} (he : xe_2 none nL r d pc lv st h c s = some o) : xe_2 scr nL r d pc lv st h c s = some o := by
  unfold xe_2 at he ⊢
  cases h1 : xe_1 nL r pc lv st h c s with
  | some o1 => rw [h1] at he; exact he
  | none =>
    rw [h1] at he
    dsimp only at he ⊢
    cases h2 : xe_o none r pc lv st h c s with
    | some o1 => rw [h2] at he; rw [xe_o_scr h2]; exact he
    | none =>
      rw [h2] at he
      dsimp only at he
      have h3 : xe_o scr r pc lv st h c s = none := by
        obtain ⟨i, len, ra, rb, rK, ri⟩ := r
        cases i <;> first | rfl | (cases he; done) | exact h2
      rw [h3]
      exact he
theorem xR_us {scr : Option (Nat × (Nat → Int32))} {mid : Nat} {mi : xm_M} {o : Option Value × xh_H × Nat × Nat} {stop : Nat} : ∀ (f d : Nat) (S o1 : xs_S), xe_u xM xC none stop f d mid mi S = some o1 → xR scr d mid mi o1 o → xR scr d mid mi S o := by
  intro f
  induction f with
  | zero => intro d S o1 he k; cases he
  | succ f ih =>
    intro d S o1 he k
    obtain ⟨pc, lv, st, h, c, s⟩ := S
    unfold xe_u at he
    cases hb : Nat.beq pc stop with
    | true => rw [hb] at he; cases he; exact k
    | false =>
      rw [hb] at he
      simp only [cond_false] at he
      cases hr : xC mid pc with
      | none => rw [hr] at he; cases he
      | some r =>
        rw [hr] at he
        dsimp only at he
        cases hi : xe_isr r.1 with
        | true => rw [hi] at he; cases he
        | false =>
          rw [hi] at he
          simp only [cond_false] at he
          cases h2 : xe_2 none mi.2.2.2.1 r d pc lv st h c s with
          | some o2 =>
            rw [h2] at he
            exact xR_step hr hi (xe_2_scr h2) (ih _ _ _ he k)
          | none =>
            rw [h2] at he
            dsimp only at he
            cases d with
            | zero => cases he
            | succ d' =>
              dsimp only at he
              cases hcl : xe_cl xM r st h with
              | none => rw [hcl] at he; cases he
              | some t =>
                obtain ⟨mj, As, q⟩ := t
                rw [hcl] at he
                dsimp only at he
                cases hx : xe_x xM xC none f d' r.2.2.1 mj (0, lv_args 0 As, [], h, 0, 0) with
                | none => rw [hx] at he; cases he
                | some t =>
                  obtain ⟨v, h', mc, ms⟩ := t
                  rw [hx] at he
                  have h2' : xe_2 scr mi.2.2.2.1 r (d' + 1) pc lv st h c s = none := by
                    have hq := hcl
                    unfold xe_cl at hq
                    split at hq
                    · cases hq
                    · split at hq
                      · rename_i idx hi1
                        obtain ⟨i, len, ra, rb, rK, ri⟩ := r
                        dsimp only at hi1
                        subst hi1
                        exact h2
                      · rename_i idx hi1
                        obtain ⟨i, len, ra, rb, rK, ri⟩ := r
                        dsimp only at hi1
                        subst hi1
                        exact h2
                      · rename_i idx hi1
                        obtain ⟨i, len, ra, rb, rK, ri⟩ := r
                        dsimp only at hi1
                        subst hi1
                        exact h2
                      · cases hq
                  exact xR_call hr hi h2' hcl ⟨f, hx⟩ (ih _ _ _ he k)
theorem and31 (a : Int32) : vp_in (a &&& 31) 32 := by
  rw [vp_in_iff]
  have h1 : (a &&& 31).toBitVec = a.toBitVec &&& 31#32 := rfl
  have h2 : (a &&& 31).toBitVec.toNat < 32 := by
    rw [h1, BitVec.toNat_and]
    exact Nat.lt_of_le_of_lt Nat.and_le_right (by decide)
  have h3 : (a &&& 31).toInt = ((a &&& 31).toBitVec.toNat : Int) := by
    show (a &&& 31).toBitVec.toInt = _
    rw [BitVec.toInt_eq_toNat_of_lt (by omega)]
  rw [h3]
  omega
set_option maxRecDepth 100000 in
set_option maxHeartbeats 8000000 in
theorem p1_run (h21 : ∀ xs, lw_C 812 xs) (L : Nat) (xs : Nat → Int32) (hL : L ≤ 6) (hk : L = 6 → xs 0 &&& 31 ≠ 11) : ∃ (h2 : xh_H) (c2 s2 : Nat), c2 ≤ 600002 ∧ s2 ≤ 7302232 ∧ xR (some (L, xs)) 12 xi_L_law xmi_L_law (0, [(0, .float 0)], [], ([], [], [], []), 0, 0) (some (.int 1), h2, c2, s2) := by
  have start : ∀ (o : Option Value × xh_H × Nat × Nat), xR (some (L, xs)) 12 xi_L_law xmi_L_law (23, xf_lv, [], xf_h, 72, 274345) o → xR (some (L, xs)) 12 xi_L_law xmi_L_law (0, [(0, .float 0)], [], ([], [], [], []), 0, 0) o := fun _ k => xR_us 3000 12 _ _ (xu_b_ok xf_pre) k
  match L, hL, hk, start with
  | 0, _, _, start => exact ⟨xf_h, 72, 274345, by decide, by decide, start _ ⟨20, rfl⟩⟩
  | 1, _, _, start => exact ⟨xf_h, 72, 274345, by decide, by decide, start _ ⟨20, rfl⟩⟩
  | 2, _, _, start => exact ⟨xf_h, 72, 274345, by decide, by decide, start _ ⟨20, rfl⟩⟩
  | 3, _, _, start => exact ⟨xf_h, 72, 274345, by decide, by decide, start _ ⟨20, rfl⟩⟩
  | 4, _, _, start => exact ⟨xf_h, 72, 274345, by decide, by decide, start _ ⟨20, rfl⟩⟩
  | 5, _, _, start => exact ⟨xf_h, 72, 274345, by decide, by decide, start _ ⟨20, rfl⟩⟩
  | 6, _, hk, start =>
    have go : lw_C 33 xs → ∃ (h2 : xh_H) (c2 s2 : Nat), c2 ≤ 600002 ∧ s2 ≤ 7302232 ∧ xR (some (6, xs)) 12 xi_L_law xmi_L_law (0, [(0, .float 0)], [], ([], [], [], []), 0, 0) (some (.int 1), h2, c2, s2) := by
      intro ⟨h2, c2, s2, a, b, r⟩
      refine ⟨h2, c2, s2, a, b, start _ ?_⟩
      refine xR_u (stop := 33) 20 12 _ _ rfl ?_
      exact r
    have sw : ∀ (j : Nat) (tgt : Nat), xs 0 &&& 31 = nI j → (∀ o, xR (some (6, xs)) 12 xi_L_law xmi_L_law (tgt, xf_lv, [], xf_h, 72, 274345) o → xR (some (6, xs)) 12 xi_L_law xmi_L_law (40, xf_lv, [.int (nI j)], xf_h, 72, 274345) o) → lw_C tgt xs → lw_C 33 xs := by
      intro j tgt hj hs ⟨h2, c2, s2, a, b, r⟩
      refine ⟨h2, c2, s2, a, b, ?_⟩
      refine xR_u (stop := 40) 20 12 _ _ rfl ?_
      change xR (some (6, xs)) 12 xi_L_law xmi_L_law (40, xf_lv, [.int (xs 0 &&& 31)], xf_h, 72, 274345) _
      rw [hj]
      exact hs _ r
    refine go ?_
    obtain ⟨j, hj, hx⟩ := vp_in_of (and31 (xs 0)) (by decide)
    match j, hj, hx with
    | 0, _, hx => exact sw 0 168 hx (fun o k => xR_step rfl rfl rfl k) (op_0 xs)
    | 1, _, hx => exact sw 1 241 hx (fun o k => xR_step rfl rfl rfl k) (op_1 xs)
    | 2, _, hx => exact sw 2 266 hx (fun o k => xR_step rfl rfl rfl k) (op_2 xs)
    | 3, _, hx => exact sw 3 291 hx (fun o k => xR_step rfl rfl rfl k) (op_3 xs)
    | 4, _, hx => exact sw 4 316 hx (fun o k => xR_step rfl rfl rfl k) (op_4 xs)
    | 5, _, hx => exact sw 5 341 hx (fun o k => xR_step rfl rfl rfl k) (op_5 xs)
    | 6, _, hx => exact sw 6 354 hx (fun o k => xR_step rfl rfl rfl k) (op_6 xs)
    | 7, _, hx => exact sw 7 391 hx (fun o k => xR_step rfl rfl rfl k) (op_7 xs)
    | 8, _, hx => exact sw 8 416 hx (fun o k => xR_step rfl rfl rfl k) (op_8 xs)
    | 9, _, hx => exact sw 9 453 hx (fun o k => xR_step rfl rfl rfl k) (op_9 xs)
    | 10, _, hx => exact sw 10 490 hx (fun o k => xR_step rfl rfl rfl k) (op_10 xs)
    | 11, _, hx => exact absurd hx (hk rfl)
    | 12, _, hx => exact sw 12 594 hx (fun o k => xR_step rfl rfl rfl k) (op_12 xs)
    | 13, _, hx => exact sw 13 620 hx (fun o k => xR_step rfl rfl rfl k) (op_13 xs)
    | 14, _, hx => exact sw 14 645 hx (fun o k => xR_step rfl rfl rfl k) (op_14 xs)
    | 15, _, hx => exact sw 15 658 hx (fun o k => xR_step rfl rfl rfl k) (op_15 xs)
    | 16, _, hx => exact sw 16 683 hx (fun o k => xR_step rfl rfl rfl k) (op_16 xs)
    | 17, _, hx => exact sw 17 708 hx (fun o k => xR_step rfl rfl rfl k) (op_17 xs)
    | 18, _, hx => exact sw 18 745 hx (fun o k => xR_step rfl rfl rfl k) (op_18 xs)
    | 19, _, hx => exact sw 19 758 hx (fun o k => xR_step rfl rfl rfl k) (op_19 xs)
    | 20, _, hx => exact sw 20 771 hx (fun o k => xR_step rfl rfl rfl k) (op_20 xs)
    | 21, _, hx => exact sw 21 812 hx (fun o k => xR_step rfl rfl rfl k) (h21 xs)
    | 22, _, hx => exact sw 22 837 hx (fun o k => xR_step rfl rfl rfl k) (op_22 xs)
    | 23, _, hx => exact sw 23 862 hx (fun o k => xR_step rfl rfl rfl k) (op_23 xs)
    | 24, _, hx => exact sw 24 915 hx (fun o k => xR_step rfl rfl rfl k) (op_24 xs)
    | 25, _, hx => exact sw 25 940 hx (fun o k => xR_step rfl rfl rfl k) (op_25 xs)
    | 26, _, hx => exact sw 26 977 hx (fun o k => xR_step rfl rfl rfl k) (op_26 xs)
    | 27, _, hx => exact sw 27 1002 hx (fun o k => xR_step rfl rfl rfl k) (op_27 xs)
    | 28, _, hx => exact sw 28 1027 hx (fun o k => xR_step rfl rfl rfl k) (⟨xf_h, 72, 274345, by decide, by decide, lw_end xs xf_h _ _⟩)
    | 29, _, hx => exact sw 29 1027 hx (fun o k => xR_step rfl rfl rfl k) (⟨xf_h, 72, 274345, by decide, by decide, lw_end xs xf_h _ _⟩)
    | 30, _, hx => exact sw 30 1027 hx (fun o k => xR_step rfl rfl rfl k) (⟨xf_h, 72, 274345, by decide, by decide, lw_end xs xf_h _ _⟩)
    | 31, _, hx => exact sw 31 1027 hx (fun o k => xR_step rfl rfl rfl k) (⟨xf_h, 72, 274345, by decide, by decide, lw_end xs xf_h _ _⟩)
    | j + 32, hj, _ => omega
  | L + 7, hL, _, _ => omega
end XFI
