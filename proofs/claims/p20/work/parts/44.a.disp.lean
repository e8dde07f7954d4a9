section XDI
theorem and31 (a : Int32) : ∃ k : Nat, k < 32 ∧ a &&& 31 = nI k := by
  have h1 : (a &&& 31).toBitVec = a.toBitVec &&& 31#32 := rfl
  have h2 : (a &&& 31).toBitVec.toNat < 32 := by
    rw [h1, BitVec.toNat_and]
    have := Nat.and_le_right (n := a.toBitVec.toNat) (m := (31#32).toNat)
    have e : (31#32).toNat = 31 := rfl
    omega
  have h3 : (a &&& 31).toInt = ((a &&& 31).toBitVec.toNat : Int) := by
    show (a &&& 31).toBitVec.toInt = _
    exact BitVec.toInt_eq_toNat_of_lt (by omega)
  obtain ⟨k, e, k31, -⟩ := a_nk (x := a &&& 31) (m := 31) (by omega) (by omega)
  exact ⟨k, by omega, e⟩
variable {L i : Nat} {xs : Nat → Int32} {h : xh_H} {c s : Nat}
theorem ld_sub (hL : L ≤ 3072) : (Int32.ofNat L - 6).toInt = (L : Int) - 6 := by
  have e : (Int32.ofNat L).toInt = L := nI_toInt (n := L) (by omega)
  have e6 : (6 : Int32).toInt = 6 := rfl
  rw [ar_sub (by rw [e, e6]; omega) (by rw [e, e6]; omega), e, e6]
set_option maxRecDepth 100000 in
/-- the loop's head -/
theorem ld_head {stop : Nat} {o : xs_S} {b : Bool} (hb : xe_c .gt (nI i) (Int32.ofNat L - 6) = b) (b0 : Nat.beq 23 stop = false) (b1 : Nat.beq 25 stop = false) (b2 : Nat.beq 26 stop = false) (b3 : Nat.beq 27 stop = false) (b4 : Nat.beq 29 stop = false) (b5 : Nat.beq 30 stop = false) (k : xV (some (L, xs)) stop 50 xi_L_law xmi_L_law (cond b 1005 33, lc_v i, [], h, c, s) o) : xV (some (L, xs)) stop 50 xi_L_law xmi_L_law (23, lc_v i, [], h, c, s) o := by
  refine xV_step (o1 := (25, lc_v i, [.int (nI i)], h, c, s)) b0 rfl rfl rfl ?_
  refine xV_step (o1 := (26, lc_v i, [.float 0, .int (nI i)], h, c, s)) b1 rfl rfl rfl ?_
  refine xV_step (o1 := (27, lc_v i, [.int (Int32.ofNat L), .int (nI i)], h, c, s)) b2 rfl rfl rfl ?_
  refine xV_step (o1 := (29, lc_v i, [.int 6, .int (Int32.ofNat L), .int (nI i)], h, c, s)) b3 rfl rfl rfl ?_
  refine xV_step (o1 := (30, lc_v i, [.int (Int32.ofNat L - 6), .int (nI i)], h, c, s)) b4 rfl rfl rfl ?_
  exact xV_ic b b5 rfl hb k
theorem ld_end (hL : L ≤ 3072) (hi : L < i + 6) (hi2 : i ≤ 3078) : xV (some (L, xs)) 1005 50 xi_L_law xmi_L_law (23, lc_v i, [], h, c, s) (1005, lc_v i, [], h, c, s) :=
  ld_head (b := true) (xgt_t (by rw [ld_sub hL, nI_toInt (by omega)]; omega)) rfl rfl rfl rfl rfl rfl xV_stop
set_option maxRecDepth 100000 in
/-- a call's number -/
theorem ld_sw {stop : Nat} {o : xs_S} (hL : L ≤ 3072) (hi : i + 6 ≤ L) (b0 : Nat.beq 23 stop = false) (b1 : Nat.beq 25 stop = false) (b2 : Nat.beq 26 stop = false) (b3 : Nat.beq 27 stop = false) (b4 : Nat.beq 29 stop = false) (b5 : Nat.beq 30 stop = false) (b6 : Nat.beq 33 stop = false) (b7 : Nat.beq 34 stop = false) (b8 : Nat.beq 36 stop = false) (b9 : Nat.beq 37 stop = false) (ba : Nat.beq 39 stop = false) (k : xV (some (L, xs)) stop 50 xi_L_law xmi_L_law (40, lc_v i, [.int (xs i &&& 31)], h, c, s) o) : xV (some (L, xs)) stop 50 xi_L_law xmi_L_law (23, lc_v i, [], h, c, s) o := by
  refine ld_head (b := false) (xgt_f (by rw [ld_sub hL, nI_toInt (by omega)]; omega)) b0 b1 b2 b3 b4 b5 ?_
  refine xV_step (o1 := (34, lc_v i, [.float 0], h, c, s)) b6 rfl rfl rfl ?_
  refine xV_step (o1 := (36, lc_v i, [.int (nI i), .float 0], h, c, s)) b7 rfl rfl rfl ?_
  refine xV_step (o1 := (37, lc_v i, [.int (xs i)], h, c, s)) b8 rfl rfl (lc_ia (by omega) hL) ?_
  refine xV_step (o1 := (39, lc_v i, [.int 31, .int (xs i)], h, c, s)) b9 rfl rfl rfl ?_
  exact xV_step (o1 := (40, lc_v i, [.int (xs i &&& 31)], h, c, s)) ba rfl rfl rfl k
set_option maxRecDepth 100000 in
set_option maxHeartbeats 4000000 in
/-- every call but share -/
theorem ld_all (hL : L ≤ 3072) (hi : i + 6 ≤ L) (I : lc_I h) (hk : xs i &&& 31 ≠ 11) : lo_P L xs i 23 h c s := by
  obtain ⟨k, k32, ek⟩ := and31 (xs i)
  have go : ∀ pc, (∀ o, xV (some (L, xs)) 999 50 xi_L_law xmi_L_law (pc, lc_v i, [], h, c, s) o → xV (some (L, xs)) 999 50 xi_L_law xmi_L_law (40, lc_v i, [.int (nI k)], h, c, s) o) → lo_P L xs i pc h c s → lo_P L xs i 23 h c s := by
    intro pc st ⟨h', c', s', r, z⟩
    refine ⟨h', c', s', ?_, z⟩
    refine ld_sw hL hi rfl rfl rfl rfl rfl rfl rfl rfl rfl rfl rfl ?_
    rw [ek]
    exact st _ r
  have no : lo_P L xs i 999 h c s := ⟨h, c, s, xV_stop, I, by omega, by omega⟩
  match k, k32, ek, go with
  | 0, _, _, go => exact go 168 (fun _ r => xV_step rfl rfl rfl rfl r) (lo_0 hL hi I)
  | 1, _, _, go => exact go 241 (fun _ r => xV_step rfl rfl rfl rfl r) (lo_1 hL hi I)
  | 2, _, _, go => exact go 266 (fun _ r => xV_step rfl rfl rfl rfl r) (lo_2 hL hi I)
  | 3, _, _, go => exact go 291 (fun _ r => xV_step rfl rfl rfl rfl r) (lo_3 hL hi I)
  | 4, _, _, go => exact go 316 (fun _ r => xV_step rfl rfl rfl rfl r) (lo_4 hL hi I)
  | 5, _, _, go => exact go 341 (fun _ r => xV_step rfl rfl rfl rfl r) (lo_5 hL hi I)
  | 6, _, _, go => exact go 354 (fun _ r => xV_step rfl rfl rfl rfl r) (lo_6 hL hi I)
  | 7, _, _, go => exact go 391 (fun _ r => xV_step rfl rfl rfl rfl r) (lo_7 hL hi I)
  | 8, _, _, go => exact go 416 (fun _ r => xV_step rfl rfl rfl rfl r) (lo_8 hL hi I)
  | 9, _, _, go => exact go 453 (fun _ r => xV_step rfl rfl rfl rfl r) (lo_9 hL hi I)
  | 10, _, _, go => exact go 490 (fun _ r => xV_step rfl rfl rfl rfl r) (lo_10 hL hi I)
  | 11, _, ek, _ => exact absurd ek hk
  | 12, _, _, go => exact go 567 (fun _ r => xV_step rfl rfl rfl rfl r) (lo_12 hL hi I)
  | 13, _, _, go => exact go 592 (fun _ r => xV_step rfl rfl rfl rfl r) (lo_13 hL hi I)
  | 14, _, _, go => exact go 617 (fun _ r => xV_step rfl rfl rfl rfl r) (lo_14 hL hi I)
  | 15, _, _, go => exact go 630 (fun _ r => xV_step rfl rfl rfl rfl r) (lo_15 hL hi I)
  | 16, _, _, go => exact go 655 (fun _ r => xV_step rfl rfl rfl rfl r) (lo_16 hL hi I)
  | 17, _, _, go => exact go 680 (fun _ r => xV_step rfl rfl rfl rfl r) (lo_17 hL hi I)
  | 18, _, _, go => exact go 717 (fun _ r => xV_step rfl rfl rfl rfl r) (lo_18 hL hi I)
  | 19, _, _, go => exact go 730 (fun _ r => xV_step rfl rfl rfl rfl r) (lo_19 hL hi I)
  | 20, _, _, go => exact go 743 (fun _ r => xV_step rfl rfl rfl rfl r) (lo_20 hL hi I)
  | 21, _, _, go => exact go 784 (fun _ r => xV_step rfl rfl rfl rfl r) (lo_21 hL hi I)
  | 22, _, _, go => exact go 809 (fun _ r => xV_step rfl rfl rfl rfl r) (lo_22 hL hi I)
  | 23, _, _, go => exact go 834 (fun _ r => xV_step rfl rfl rfl rfl r) (lo_23 hL hi I)
  | 24, _, _, go => exact go 887 (fun _ r => xV_step rfl rfl rfl rfl r) (lo_24 hL hi I)
  | 25, _, _, go => exact go 912 (fun _ r => xV_step rfl rfl rfl rfl r) (lo_25 hL hi I)
  | 26, _, _, go => exact go 949 (fun _ r => xV_step rfl rfl rfl rfl r) (lo_26 hL hi I)
  | 27, _, _, go => exact go 974 (fun _ r => xV_step rfl rfl rfl rfl r) (lo_27 hL hi I)
  | 28, _, _, go => exact go 999 (fun _ r => xV_step rfl rfl rfl rfl r) no
  | 29, _, _, go => exact go 999 (fun _ r => xV_step rfl rfl rfl rfl r) no
  | 30, _, _, go => exact go 999 (fun _ r => xV_step rfl rfl rfl rfl r) no
  | 31, _, _, go => exact go 999 (fun _ r => xV_step rfl rfl rfl rfl r) no
  | n + 32, k32, _, _ => exact absurd k32 (by omega)
end XDI
