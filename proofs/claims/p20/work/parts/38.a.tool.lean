section XTL
variable {tb : aT} {mid d : Nat} {mi : xm_M} {pc : Nat} {lv : List (Nat × Value)} {st : List Value} {h : xh_H} {Q : Option Value → xh_H → Prop}
/-- a call that answers an int, by its contract, with what its answer tells -/
theorem xp_intf {C : aC} {r : xr_R} {mj : xm_M} {As q : List Value} {σ : aN → Int} {lo hi : Int} {o : Option (aN × Int)} {ft ff : aF} (hC : a_spec tb C) (hq : a_rq tb h) (hi0 : a_inv tb h) (hr : xC mid pc = some r) (hid : C.1 = r.2.2.1) (he : xa_c r st = some (mj, As, q)) (hd : C.2.1 ≤ d) (ha : a_st σ h.1.length C.2.2.1 As) (hp : a_fp C.2.2.2.2.2 h) (hret : C.2.2.2.1 = [(some (0, lo, hi, o, ft, ff), [])])
    (k : ∀ (x : Int32) (h' : xh_H), lo ≤ x.toInt → x.toInt ≤ hi → (x ≠ 0 → a_f (a_sg As) ft) → (x = 0 → a_f (a_sg As) ff) → a_inv tb h' → h'.1 = h.1 → a_fr C.2.2.2.2.1 h h' → a_rq tb h' → xt_P (d + 1) mid mi (pc + 3) lv (.int x :: q) h' Q) : xt_P (d + 1) mid mi pc lv st h Q := by
  refine xp_by hC hq hi0 hr hid he hd ha hp (fun v h' p hq' => ?_)
  obtain ⟨p1, p2, ⟨t, ht, p3⟩, p4⟩ := p
  rw [hret] at ht
  cases List.mem_singleton.mp ht
  obtain ⟨⟨w, rfl, x, rfl, g1, g2, -, g4, g5⟩, -⟩ := p3
  exact k x h' g1 g2 g4 g5 p1 p2 p4 hq'
theorem n7 (k s : Nat) : (7 : Int32) * nI k + nI s = nI (7 * k + s) := by rw [show (7 : Int32) = nI 7 from rfl, ← nI_mul2, nI_add]
theorem ne_e {x : Int32} {k : Nat} (hk : k < 2 ^ 31) (hx : x = nI k) : x.toInt = k := by rw [hx, nI_toInt hk]
/-- a hand-made contract from what is known of the runs -/
theorem sp_of {C : aC} {mi : xm_M} (hM : xM C.1 = some mi) (H : ∀ (d : Nat) (vs : List Value) (h : xh_H) (σ : aN → Int), C.2.1 ≤ d → a_inv a_tb h → 72 ≤ h.1.length → a_st σ h.1.length C.2.2.1 vs → a_fp C.2.2.2.2.2 h → xt_P d C.1 mi 0 (lv_args 0 vs) [] h (fun v h' => hk C.2.2.2.2.1 h h' ∧ ∃ t ∈ C.2.2.2.1, a_rok (a_sg vs) h.1.length t v h')) : a_spec a_tb C := by
  intro d mi' vs h σ hd hM' hi hn ha hp
  rw [hM] at hM'
  cases hM'
  obtain ⟨v, h', r, hk0, ht⟩ := H d vs h σ hd hi hn ha hp
  exact ⟨v, h', r, hk0.1, hk0.2.1, ht, hk0.2.2⟩
theorem rok_i {σ : aN → Int} {n : Nat} {lo hi : Int} {x : Int32} {h' : xh_H} (h1 : lo ≤ x.toInt) (h2 : x.toInt ≤ hi) : ∃ t ∈ [(some ((0, lo, hi, none, [], []) : aV), ([] : aP))], a_rok σ n t (some (.int x)) h' := ⟨_, List.mem_singleton.mpr rfl, ⟨_, rfl, a_ai h1 h2⟩, a_fp0⟩
theorem rok_v {σ : aN → Int} {n : Nat} {h' : xh_H} : ∃ t ∈ [((none : Option aV), ([] : aP))], a_rok σ n t none h' := ⟨_, List.mem_singleton.mpr rfl, rfl, a_fp0⟩
theorem hk_t {md md' : List (Nat × Nat)} {h0 h1 h2 : xh_H} (a : hk md h0 h1) (b : hk md' h1 h2) (hs : ∀ q, q ∈ md' → q ∈ md) : hk md h0 h2 := hk_c a b.1 b.2.1 b.2.2 hs
end XTL
