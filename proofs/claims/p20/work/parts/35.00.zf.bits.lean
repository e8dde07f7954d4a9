section XBI
theorem nI_bv {a : Nat} : (nI a).toBitVec = BitVec.ofNat 32 a := rfl
theorem nI_or {a b : Nat} : nI a ||| nI b = nI (a ||| b) := by
  apply Int32.toBitVec_inj.mp
  show BitVec.ofNat 32 a ||| BitVec.ofNat 32 b = BitVec.ofNat 32 (a ||| b)
  apply BitVec.eq_of_toNat_eq
  rw [BitVec.toNat_or, BitVec.toNat_ofNat, BitVec.toNat_ofNat, BitVec.toNat_ofNat, Nat.or_mod_two_pow]
theorem nI_and {a b : Nat} : nI a &&& nI b = nI (a &&& b) := by
  apply Int32.toBitVec_inj.mp
  show BitVec.ofNat 32 a &&& BitVec.ofNat 32 b = BitVec.ofNat 32 (a &&& b)
  apply BitVec.eq_of_toNat_eq
  rw [BitVec.toNat_and, BitVec.toNat_ofNat, BitVec.toNat_ofNat, BitVec.toNat_ofNat, Nat.and_mod_two_pow]
theorem nI_mul2 (a b : Nat) : nI (a * b) = nI a * nI b := Int32.ofNat_mul a b
theorem nI_shr {a k : Nat} (ha : a < 2 ^ 31) (hk : k < 32) : nI a >>> (nI k &&& 31) = nI (a / 2 ^ k) := by
  have hl : a / 2 ^ k ≤ a := Nat.div_le_self _ _
  apply Int32.toInt_inj.mp
  rw [ar_shr hk, nI_toInt ha, nI_toInt (by omega)]
  rfl
theorem nI_b0 {a k : Nat} (ha : a < 2 ^ 31) (hk : k < 32) : (nI a >>> (nI k &&& 31)) &&& Int32.ofInt 1 = nI ((a.testBit k).toNat) := by
  rw [nI_shr ha hk, show Int32.ofInt 1 = nI 1 from rfl, nI_and, Nat.and_one_is_mod, Nat.toNat_testBit]
theorem sh1 : ∀ a, a < 31 → Int32.ofInt 1 <<< (nI a &&& 31) = nI (2 ^ a) := by decide +kernel
theorem p12 {a : Nat} (h : a ≤ 11) : 2 ^ a < 4096 := Nat.lt_of_le_of_lt (Nat.pow_le_pow_right (by decide) h) (by decide)
theorem or12 {s a : Nat} (hs : s < 4096) (h : a ≤ 11) : s ||| 2 ^ a < 4096 := Nat.or_lt_two_pow (n := 12) hs (p12 h)
theorem nI_o1 {s a : Nat} (h : a ≤ 11) : nI s ||| (Int32.ofInt 1 <<< (nI a &&& 31)) = nI (s ||| 2 ^ a) := by rw [sh1 a (by omega), nI_or]
/-- the same heap, read place by place -/
theorem hk_ext {md : List (Nat × Nat)} {h0 h h' : xh_H} (hk0 : hk md h0 h) (h1 : h'.1 = h.1) (h2 : h'.2.2 = h.2.2) (hx : ∀ c k, xg 0 h'.2.1 c k = xg 0 h.2.1 c k) : hk md h0 h' := by
  refine ⟨⟨?_, a_J_of hk0.1.2 (fun c k _ => hx c k)⟩, h1.trans hk0.2.1, fun c k hz hm => (hx c k).trans (hk0.2.2 c k hz hm)⟩
  intro c s hs
  rw [h1] at hs
  obtain ⟨g1, g2⟩ := hk0.1.1 c s hs
  refine ⟨g1, fun k hk => ?_⟩
  have g := g2 k hk
  unfold a_e at g ⊢
  rw [hx, h2, h1]
  exact g
theorem gx_2 {h : xh_H} {c k c' k' : Nat} {x y : Int32} : xg 0 (xh_ui (xh_ui h c k x) c k y).2.1 c' k' = xg 0 (xh_ui h c k y).2.1 c' k' := by
  by_cases e : c' = c ∧ k' = k
  · obtain ⟨rfl, rfl⟩ := e
    rw [gx_s, gx_s]
  · rw [gx_i e, gx_i e, gx_i e]
end XBI
