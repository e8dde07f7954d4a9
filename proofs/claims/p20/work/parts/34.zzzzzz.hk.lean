section XHK
/-- the heap keeps its bounds, and only what is told has changed -/
def hk (md : List (Nat × Nat)) (h0 h : xh_H) : Prop := a_inv a_tb h ∧ h.1 = h0.1 ∧ a_fr md h0 h
variable {md md' : List (Nat × Nat)} {h0 h h' : xh_H} {c k : Nat} {x y : Int32}
def a_mb (md : List (Nat × Nat)) (c k : Nat) : Bool := md.any fun q => Nat.beq q.1 c && Nat.beq q.2 (a_key c k)
theorem a_mb_t (h : a_mb md c k = true) : (c, a_key c k) ∈ md := by
  obtain ⟨q, h1, h2⟩ := List.any_eq_true.mp h
  obtain ⟨h3, h4⟩ := xw_bb h2
  have e : q = (c, a_key c k) := Prod.ext (xw_beq h3) (xw_beq h4)
  rw [← e]
  exact h1
theorem a_mb_f (h : a_mb md c k = false) : (c, a_key c k) ∉ md := by
  intro hm
  have : a_mb md c k = true := List.any_eq_true.mpr ⟨_, hm, by rw [Nat.beq_refl, Nat.beq_refl]; rfl⟩
  rw [this] at h
  cases h
theorem fr_g (hf : a_fr md h h') (hz : a_fz c = true) (hm : a_mb md c k = false) : xg 0 h'.2.1 c k = xg 0 h.2.1 c k := hf c k hz (a_mb_f hm)
theorem hk_0 (hi : a_inv a_tb h) : hk md h h := ⟨hi, rfl, fun _ _ _ _ => rfl⟩
theorem hk_n (hk0 : hk md h0 h) (hn : 72 ≤ h0.1.length) : 72 ≤ h.1.length := by rw [hk0.2.1]; exact hn
theorem hk_q (hk0 : hk md h0 h) (hn : 72 ≤ h0.1.length) : a_rq a_tb h := a_rq_of hk0.1.1 (hk_n hk0 hn)
theorem hk_g (hk0 : hk md h0 h) (hz : a_fz c = true) (hm : a_mb md c k = false) : xg 0 h.2.1 c k = xg 0 h0.2.1 c k := hk0.2.2 c k hz (a_mb_f hm)
theorem hk_ui {s : Nat × Nat} {lo hi : Int} (hk0 : hk md h0 h) (hn : 72 ≤ h0.1.length) (hs : a_sh[c]? = some s) (he : a_ent a_tb s c k = (0, lo, hi)) (h1 : lo ≤ x.toInt) (h2 : x.toInt ≤ hi) (hj : a_jc c k = false) (hm : a_mb md c k = true) : hk md h0 (xh_ui h c k x) := by
  have hc := a_sh_lt hs
  refine ⟨⟨a_inw_ui hk0.1.1 ((hk_q hk0 hn).2.1 c s hs) (by rw [a_tg_lt hc]; exact he) h1 h2, a_J_ui hk0.1.2 hj⟩, hk0.2.1, ?_⟩
  intro c' k' hz hm'
  rw [← hk0.2.2 c' k' hz hm']
  by_cases e : c' = c
  · subst e
    by_cases e2 : k' = k
    · subst e2
      exact absurd (a_mb_t hm) hm'
    · exact xh_up_k e2
  · exact congrFun (xh_up_o e) k'
theorem hk_c (hk0 : hk md h0 h) (hi : a_inv a_tb h') (hl : h'.1 = h.1) (hf : a_fr md' h h') (hs : ∀ q, q ∈ md' → q ∈ md) : hk md h0 h' := by
  refine ⟨hi, hl.trans hk0.2.1, fun c k hz hm => ?_⟩
  rw [hf c k hz (fun z => hm (hs _ z))]
  exact hk0.2.2 c k hz hm
theorem fr_nil (hf : a_fr [] h h') (hz : a_fz c = true) : xg 0 h'.2.1 c k = xg 0 h.2.1 c k := hf c k hz (fun z => nomatch z)
theorem a_nk {m : Nat} (h1 : 0 ≤ x.toInt) (h2 : x.toInt ≤ (m : Int)) : ∃ k : Nat, x = nI k ∧ k ≤ m ∧ k < 2 ^ 31 := by
  obtain ⟨e, l⟩ := a_nIx h1
  exact ⟨_, e, by omega, l⟩
theorem xin_n {n : Nat} (h : k < n) (hn : k < 2 ^ 31) : xe_in (nI k) n = true := a_xin (by rw [nI_toInt hn]; omega) (by rw [nI_toInt hn]; omega)
theorem nge_t {a b : Nat} (ha : a < 2 ^ 31) (hb : b < 2 ^ 31) (h : b ≤ a) : xe_c .ge (nI a) (nI b) = true := xge_t (by rw [nI_toInt ha, nI_toInt hb]; omega)
theorem nge_f {a b : Nat} (ha : a < 2 ^ 31) (hb : b < 2 ^ 31) (h : a < b) : xe_c .ge (nI a) (nI b) = false := xge_f (by rw [nI_toInt ha, nI_toInt hb]; omega)
theorem gx_s : xg 0 (xh_ui h c k x).2.1 c k = x := xh_up_s
theorem gx_k {k' : Nat} (e : k' ≠ k) : xg 0 (xh_ui h c k x).2.1 c k' = xg 0 h.2.1 c k' := xh_up_k e
theorem gx_o {c' k' : Nat} (e : c' ≠ c) : xg 0 (xh_ui h c k x).2.1 c' k' = xg 0 h.2.1 c' k' := congrFun (xh_up_o e) k'
theorem gx_i {c' k' : Nat} (e : ¬ (c' = c ∧ k' = k)) : xg 0 (xh_ui h c k x).2.1 c' k' = xg 0 h.2.1 c' k' := by
  by_cases e1 : c' = c
  · subst e1
    exact gx_k (fun z => e ⟨rfl, z⟩)
  · exact gx_o e1
theorem a_elx {n : Nat} {lo hi : Int} (hi0 : a_inw a_tb h) (hn : 72 ≤ h.1.length) (hs : a_sh[c]? = some (1, n)) (he : a_ent a_tb (1, n) c 0 = (0, lo, hi)) (hk : k < n) : lo ≤ (xg 0 h.2.1 c k).toInt ∧ (xg 0 h.2.1 c k).toInt ≤ hi := by
  have h1 := (a_rq_of hi0 hn).2.1 c _ hs
  have g := (hi0 c _ h1).2 k hk
  rw [a_tg_lt (a_sh_lt hs), a_ent0 (fun z => by cases z), he] at g
  exact g
theorem a_blx {n : Nat} {lo hi : Int} (hi0 : a_inw a_tb h) (hn : 72 ≤ h.1.length) (hs : a_sh[c]? = some (3, n)) (he : a_ent a_tb (3, n) c 0 = (0, lo, hi)) (hk : k < n) : lo ≤ (xg 0 h.2.1 c k).toInt ∧ (xg 0 h.2.1 c k).toInt ≤ hi := by
  have h1 := (a_rq_of hi0 hn).2.1 c _ hs
  have g := (hi0 c _ h1).2 k hk
  rw [a_tg_lt (a_sh_lt hs), a_ent0 (fun z => by cases z), he] at g
  exact g
theorem a_flx {ci : Nat} {lo hi : Int} (hi0 : a_inw a_tb h) (hn : 72 ≤ h.1.length) (hs : a_sh[c]? = some (0, ci)) (he : a_ent a_tb (0, ci) c k = (0, lo, hi)) (hk : k < xh_N ci) : lo ≤ (xg 0 h.2.1 c k).toInt ∧ (xg 0 h.2.1 c k).toInt ≤ hi := by
  have h1 := (a_rq_of hi0 hn).2.1 c _ hs
  have g := (hi0 c _ h1).2 k hk
  rw [a_tg_lt (a_sh_lt hs), he] at g
  exact g
theorem nI_dec2 (n : Nat) : nI (n + 1) + Int32.ofInt (-1) = nI n := by
  rw [nI_succ, Int32.add_assoc]
  exact Int32.add_zero _
theorem i_add (hb1 : -2147483648 ≤ x.toInt + y.toInt) (hb2 : x.toInt + y.toInt ≤ 2147483647) : (x + y).toInt = x.toInt + y.toInt := ar_add hb1 hb2
theorem i_inc (hb : x.toInt < 2147483647) : (x + Int32.ofInt 1).toInt = x.toInt + 1 := by
  have e : (Int32.ofInt 1).toInt = 1 := rfl
  have := ar_rng x
  rw [ar_add (by rw [e]; omega) (by rw [e]; omega), e]
end XHK
