section XAR
theorem bm_id {z : Int} (h1 : -2147483648 ≤ z) (h2 : z ≤ 2147483647) : z.bmod (2 ^ 32) = z := by
  simp only [Int.bmod]
  split <;> omega
theorem ar_rng (x : Int32) : -2147483648 ≤ x.toInt ∧ x.toInt ≤ 2147483647 := by
  have h1 := x.le_toInt
  have h2 := x.toInt_lt
  omega
theorem ar_add {x y : Int32} (h1 : -2147483648 ≤ x.toInt + y.toInt) (h2 : x.toInt + y.toInt ≤ 2147483647) : (x + y).toInt = x.toInt + y.toInt := by
  rw [Int32.toInt_add]
  exact bm_id h1 h2
theorem ar_sub {x y : Int32} (h1 : -2147483648 ≤ x.toInt - y.toInt) (h2 : x.toInt - y.toInt ≤ 2147483647) : (x - y).toInt = x.toInt - y.toInt := by
  rw [Int32.toInt_sub]
  exact bm_id h1 h2
theorem ar_mul {x y : Int32} (h1 : -2147483648 ≤ x.toInt * y.toInt) (h2 : x.toInt * y.toInt ≤ 2147483647) : (x * y).toInt = x.toInt * y.toInt := by
  rw [Int32.toInt_mul]
  exact bm_id h1 h2
theorem ar_nn {x : Int32} (h : 0 ≤ x.toInt) : x.toInt = (x.toBitVec.toNat : Int) ∧ x.toBitVec.toNat < 2147483648 := by
  have e : x.toInt = x.toBitVec.toInt := rfl
  have l := x.toBitVec.isLt
  rw [e, BitVec.toInt_eq_toNat_cond] at h
  rw [e, BitVec.toInt_eq_toNat_cond]
  split at h
  · rename_i h2
    rw [if_pos h2]
    exact ⟨rfl, by omega⟩
  · omega
theorem ar_of {x : Int32} (h : x.toBitVec.toNat < 2147483648) : x.toInt = (x.toBitVec.toNat : Int) := by
  have e : x.toInt = x.toBitVec.toInt := rfl
  rw [e, BitVec.toInt_eq_toNat_cond, if_pos (by omega)]
theorem ar_and1 {x y : Int32} (h : 0 ≤ y.toInt) : 0 ≤ (x &&& y).toInt ∧ (x &&& y).toInt ≤ y.toInt := by
  obtain ⟨e, l⟩ := ar_nn h
  have h1 : (x &&& y).toBitVec.toNat = x.toBitVec.toNat &&& y.toBitVec.toNat := BitVec.toNat_and ..
  have h2 : x.toBitVec.toNat &&& y.toBitVec.toNat ≤ y.toBitVec.toNat := Nat.and_le_right
  rw [ar_of (x := x &&& y) (by omega), e, h1]
  omega
theorem ar_and2 {x y : Int32} (h : 0 ≤ x.toInt) : 0 ≤ (x &&& y).toInt ∧ (x &&& y).toInt ≤ x.toInt := by
  obtain ⟨e, l⟩ := ar_nn h
  have h1 : (x &&& y).toBitVec.toNat = x.toBitVec.toNat &&& y.toBitVec.toNat := BitVec.toNat_and ..
  have h2 : x.toBitVec.toNat &&& y.toBitVec.toNat ≤ x.toBitVec.toNat := Nat.and_le_left
  rw [ar_of (x := x &&& y) (by omega), e, h1]
  omega
theorem ar_p31 {k : Nat} (hk : k ≤ 31) : 2 ^ k ≤ 2147483648 := Nat.pow_le_pow_right (by decide) hk
theorem ar_or {x y : Int32} {k : Nat} (hk : k ≤ 31) (hx : 0 ≤ x.toInt) (hy : 0 ≤ y.toInt) (hx2 : x.toInt < ((2 ^ k : Nat) : Int)) (hy2 : y.toInt < ((2 ^ k : Nat) : Int)) : 0 ≤ (x ||| y).toInt ∧ (x ||| y).toInt < ((2 ^ k : Nat) : Int) := by
  obtain ⟨e, l⟩ := ar_nn hx
  obtain ⟨e2, l2⟩ := ar_nn hy
  have hp := ar_p31 hk
  have h1 : (x ||| y).toBitVec.toNat = x.toBitVec.toNat ||| y.toBitVec.toNat := BitVec.toNat_or ..
  have h2 : x.toBitVec.toNat ||| y.toBitVec.toNat < 2 ^ k := Nat.or_lt_two_pow (by omega) (by omega)
  rw [ar_of (x := x ||| y) (by omega), h1]
  omega
theorem ar_xor {x y : Int32} {k : Nat} (hk : k ≤ 31) (hx : 0 ≤ x.toInt) (hy : 0 ≤ y.toInt) (hx2 : x.toInt < ((2 ^ k : Nat) : Int)) (hy2 : y.toInt < ((2 ^ k : Nat) : Int)) : 0 ≤ (x ^^^ y).toInt ∧ (x ^^^ y).toInt < ((2 ^ k : Nat) : Int) := by
  obtain ⟨e, l⟩ := ar_nn hx
  obtain ⟨e2, l2⟩ := ar_nn hy
  have hp := ar_p31 hk
  have h1 : (x ^^^ y).toBitVec.toNat = x.toBitVec.toNat ^^^ y.toBitVec.toNat := BitVec.toNat_xor ..
  have h2 : x.toBitVec.toNat ^^^ y.toBitVec.toNat < 2 ^ k := Nat.xor_lt_two_pow (by omega) (by omega)
  rw [ar_of (x := x ^^^ y) (by omega), h1]
  omega
theorem ar_sh : ∀ k, k < 32 → ((nI k &&& 31 : Int32).toBitVec.smod 32).toNat = k := by decide +kernel
theorem ar_shl {x : Int32} {k : Nat} (hk : k < 32) (hx : 0 ≤ x.toInt) (h : x.toInt * ((2 ^ k : Nat) : Int) ≤ 2147483647) : (x <<< (nI k &&& 31)).toInt = x.toInt * ((2 ^ k : Nat) : Int) := by
  obtain ⟨e, l⟩ := ar_nn hx
  have e1 : (x <<< (nI k &&& 31)).toBitVec = x.toBitVec <<< ((nI k &&& 31 : Int32).toBitVec.smod 32) := rfl
  have e2 : (x <<< (nI k &&& 31)).toBitVec.toNat = x.toBitVec.toNat * 2 ^ k % 2 ^ 32 := by
    rw [e1, BitVec.shiftLeft_eq', ar_sh k hk, BitVec.toNat_shiftLeft, Nat.shiftLeft_eq]
  rw [e] at h ⊢
  have h' : x.toBitVec.toNat * 2 ^ k ≤ 2147483647 := by
    have h2 : ((x.toBitVec.toNat * 2 ^ k : Nat) : Int) ≤ ((2147483647 : Nat) : Int) := by
      rw [Int.natCast_mul]
      exact h
    exact Int.ofNat_le.mp h2
  rw [Nat.mod_eq_of_lt (by omega)] at e2
  rw [ar_of (x := x <<< (nI k &&& 31)) (by omega), e2, Int.natCast_mul]
theorem ar_shr {x : Int32} {k : Nat} (hk : k < 32) : (x >>> (nI k &&& 31)).toInt = x.toInt / ((2 ^ k : Nat) : Int) := by
  have e1 : (x >>> (nI k &&& 31)).toBitVec = x.toBitVec.sshiftRight' ((nI k &&& 31 : Int32).toBitVec.smod 32) := rfl
  have e : (x >>> (nI k &&& 31)).toInt = (x >>> (nI k &&& 31)).toBitVec.toInt := rfl
  rw [e, e1, BitVec.sshiftRight', ar_sh k hk, BitVec.toInt_sshiftRight, Int.shiftRight_eq_div_pow]
  rfl
end XAR
