section XLE
/-- what stands once another comes -/
def sd (B : Nat → Nat → Bool) (s c : Nat) : Nat := if B c s = true then c else s
/-- what a row comes to as it comes -/
def fo (B : Nat → Nat → Bool) (T : Nat → Nat) : Nat → Nat
  | 0 => T 0
  | n + 1 => sd B (fo B T n) (T (n + 1))
/-- what is come to from s with j of the row still to come -/
def th (B : Nat → Nat → Bool) (T : Nat → Nat) (n : Nat) : Nat → Nat → Nat
  | 0, s => s
  | j + 1, s => sd B (th B T n j s) (th B T n j (T (n - (j + 1))))
theorem sd_lt {B : Nat → Nat → Bool} {s c : Nat} (hs : s < 7) (hc : c < 7) : sd B s c < 7 := by
  unfold sd
  split <;> assumption
theorem fo_lt {B : Nat → Nat → Bool} {T : Nat → Nat} : ∀ n, (∀ k, k ≤ n → T k < 7) → fo B T n < 7 := by
  intro n
  induction n with
  | zero => intro h; exact h 0 (by omega)
  | succ n ih => intro h; exact sd_lt (ih (fun k hk' => h k (by omega))) (h (n + 1) (by omega))
theorem th_lt {B : Nat → Nat → Bool} {T : Nat → Nat} {n : Nat} (n0 : 0 < n) (h : ∀ k, k < n → T k < 7) : ∀ j s, s < 7 → th B T n j s < 7 := by
  intro j
  induction j with
  | zero => intro s hs; exact hs
  | succ j ih => intro s hs; exact sd_lt (ih s hs) (ih _ (h _ (by omega)))
theorem ro_s {T : Nat → Nat} : ∀ (j i m : Nat), m < 128 → ro T j i (nI m) = true → (∀ k, i ≤ k → k < i + j → T k < 7 ∧ m.testBit (T k) = false) ∧ ∀ k l, i ≤ k → k < l → l < i + j → T k ≠ T l := by
  intro j
  induction j with
  | zero => intro i m _ _; exact ⟨fun k h1 h2 => absurd h2 (by omega), fun k l h1 h2 h3 => absurd h3 (by omega)⟩
  | succ j ih =>
    intro i m m1 h
    have hR : ro T (j + 1) i (nI m) = (decide (T i < 7) && (xe_c .eq ((nI m >>> (nI (T i) &&& 31)) &&& Int32.ofInt 1) 0 && ro T j (i + 1) (nI m ||| (Int32.ofInt 1 <<< (nI (T i) &&& 31))))) := rfl
    rw [hR, Bool.and_eq_true, Bool.and_eq_true] at h
    obtain ⟨a, b, c⟩ := h
    have t7 := of_decide_eq_true a
    rw [nI_b0 (by omega) (by omega)] at b
    have b' : m.testBit (T i) = false := by
      cases z : m.testBit (T i) with
      | false => rfl
      | true => rw [z] at b; exact absurd b (by decide)
    rw [nI_o1 (by omega)] at c
    have p7 : 2 ^ T i < 2 ^ 7 := Nat.pow_lt_pow_right (by decide) t7
    obtain ⟨d1, d2⟩ := ih (i + 1) (m ||| 2 ^ T i) (Nat.or_lt_two_pow (n := 7) m1 p7) c
    have ne : ∀ k, i + 1 ≤ k → k < i + 1 + j → T i ≠ T k ∧ m.testBit (T k) = false := fun k k1 k2 => by
      have e := (d1 k k1 k2).2
      rw [Nat.testBit_or, Bool.or_eq_false_iff, Nat.testBit_two_pow] at e
      exact ⟨of_decide_eq_false e.2, e.1⟩
    refine ⟨fun k k1 k2 => ?_, fun k l k1 k2 k3 => ?_⟩
    · by_cases z : k = i
      · rw [z]; exact ⟨t7, b'⟩
      · exact ⟨(d1 k (by omega) (by omega)).1, (ne k (by omega) (by omega)).2⟩
    · by_cases z : k = i
      · rw [z]; exact (ne l (by omega) (by omega)).1
      · exact d2 k l (by omega) k2 (by omega)
theorem ro_t {T : Nat → Nat} {n : Nat} (h : ro T n 0 (Int32.ofInt 0) = true) : (∀ k, k < n → T k < 7) ∧ ∀ k l, k < n → l < n → T k = T l → k = l := by
  obtain ⟨a, b⟩ := ro_s n 0 0 (by decide) h
  refine ⟨fun k hk' => (a k (by omega) (by omega)).1, fun k l h1 h2 e => ?_⟩
  rcases Nat.lt_trichotomy k l with z | z | z
  · exact absurd e (b k l (by omega) z (by omega))
  · exact z
  · exact absurd e.symm (b l k (by omega) z (by omega))
set_option maxRecDepth 100000 in
set_option maxHeartbeats 4000000 in
theorem sta_q {f s c : Nat} {B : Nat → Nat → Bool} {h : xh_H} (hs : s < 7) (hc : c < 7) (hB : ∀ x, x < 7 → xg 0 h.2.1 31 x = nI (msk (B x) 7)) (hq : a_rq a_tb h) : xq f xi_X0_stands xmi_X0_stands 0 [(0, .ref 28), (1, .int (nI s)), (2, .int (nI c))] [] h (fun v h' => h = h' ∧ v = some (.int (nI (sd B s c)))) := by
  refine xq_n 3 [1, 2] [(1, .int (nI s)), (2, .int (nI c))] [.int (nI s), .int (nI c), .ref 28] h [] 60 hq rfl trivial (fun _ => ?_)
  refine xq_run hq rfl rfl (wins_q hc hs hB hq) ?_
  rintro v h1 ⟨rfl, rfl⟩
  unfold sd
  cases c1 : B c s with
  | true =>
    refine xq_n 14 [] [] [.int (nI c)] h [false] 60 hq rfl ⟨rfl, trivial⟩ (fun _ => ?_)
    exact xq_ret rfl rfl rfl ⟨rfl, by rw [if_pos rfl]⟩
  | false =>
    refine xq_n 14 [] [] [.int (nI s)] h [true] 60 hq rfl ⟨rfl, trivial⟩ (fun _ => ?_)
    exact xq_ret rfl rfl rfl ⟨rfl, by rw [if_neg (by decide)]⟩
set_option maxRecDepth 100000 in
set_option maxHeartbeats 4000000 in
theorem fol_l {n : Nat} {T : Nat → Nat} {B : Nat → Nat → Bool} {h : xh_H} (hc : ct h T n) (tl : ∀ k, k < n → T k < 7) (hB : ∀ x, x < 7 → xg 0 h.2.1 31 x = nI (msk (B x) 7)) (hq : a_rq a_tb h) : ∀ (j f i : Nat), i + j + 1 = n → xq f xi_X0_follow xmi_X0_follow 8 [(0, .ref 28), (1, .ref 1), (2, .int (nI (fo B T i))), (3, .int (nI (i + 1)))] [] h (fun v h' => h = h' ∧ v = some (.int (nI (fo B T (n - 1))))) := by
  have n6 := hc.2.1
  intro j
  induction j with
  | zero =>
    intro f i ij
    refine xq_n 34 [] [] [.int (nI (fo B T i))] h [true] 60 hq rfl ⟨(show xe_c .ge (nI (i + 1)) (xg 0 h.2.1 1 1) = true by rw [show xg 0 h.2.1 1 1 = nI n from hc.1]; exact nge_t (by omega) (by omega) (by omega)), trivial⟩ (fun _ => ?_)
    exact xq_ret rfl rfl rfl ⟨rfl, by rw [show n - 1 = i by omega]⟩
  | succ j ih =>
    intro f i ij
    refine xq_n 20 [0, 1, 2, 3] [(0, .ref 28), (1, .ref 1), (2, .int (nI (fo B T i))), (3, .int (nI (i + 1)))] [.int (nI (i + 1)), .ref 1, .int (nI (fo B T i)), .ref 28] h [false] 60 hq rfl ⟨(show xe_c .ge (nI (i + 1)) (xg 0 h.2.1 1 1) = false by rw [show xg 0 h.2.1 1 1 = nI n from hc.1]; exact nge_f (by omega) (by omega) (by omega)), trivial⟩ (fun _ => ?_)
    refine xq_run hq rfl rfl (at_q hc (p := i + 1) (by omega) hq) ?_
    rintro v h1 ⟨rfl, rfl⟩
    refine xq_run hq rfl rfl (sta_q (s := fo B T i) (c := T (i + 1)) (fo_lt i (fun k hk' => tl k (by omega))) (tl _ (by omega)) hB hq) ?_
    rintro v h1 ⟨rfl, rfl⟩
    refine xq_n 8 [0, 1, 2, 3] [(0, .ref 28), (1, .ref 1), (2, .int (nI (sd B (fo B T i) (T (i + 1))))), (3, .int (nI (i + 1) + Int32.ofInt 1))] [] h [] 60 hq rfl trivial (fun _ => ?_)
    rw [show nI (i + 1) + Int32.ofInt 1 = nI (i + 1 + 1) from nI_1 _]
    exact ih f (i + 1) (by omega)
set_option maxRecDepth 100000 in
set_option maxHeartbeats 4000000 in
theorem fol_q {f n : Nat} {T : Nat → Nat} {B : Nat → Nat → Bool} {h : xh_H} (n1 : 1 ≤ n) (hc : ct h T n) (tl : ∀ k, k < n → T k < 7) (hB : ∀ x, x < 7 → xg 0 h.2.1 31 x = nI (msk (B x) 7)) (hq : a_rq a_tb h) : xq f xi_X0_follow xmi_X0_follow 0 [(0, .ref 28), (1, .ref 1)] [] h (fun v h' => h = h' ∧ v = some (.int (nI (fo B T (n - 1))))) := by
  refine xq_n 2 [0, 1] [(0, .ref 28), (1, .ref 1)] [.int (Int32.ofInt 0), .ref 1] h [] 60 hq rfl trivial (fun _ => ?_)
  refine xq_run hq rfl rfl (at_q hc (p := 0) (by omega) hq) ?_
  rintro v h1 ⟨rfl, rfl⟩
  refine xq_n 8 [0, 1, 2, 3] [(0, .ref 28), (1, .ref 1), (2, .int (nI (T 0))), (3, .int (Int32.ofInt 1))] [] h [] 60 hq rfl trivial (fun _ => ?_)
  exact fol_l hc tl hB hq (n - 1) f 0 (by omega)
def S33 (c _k : Nat) : Bool := Nat.beq c 33
section
variable {n : Nat} {T : Nat → Nat} {B : Nat → Nat → Bool} {hb : xh_H}
set_option maxRecDepth 100000 in
set_option maxHeartbeats 4000000 in
theorem fse_in (hc : ct hb T n) (tl : ∀ k, k < n → T k < 7) (inj : ∀ k l, k < n → l < n → T k = T l → k = l) (hB : ∀ x, x < 7 → xg 0 hb.2.1 31 x = nI (msk (B x) 7)) {i j : Nat} (ij : i + j + 2 = n) {Q : Option Value → xh_H → Prop} (K : ∀ (f : Nat) (h : xh_H), a_rq a_tb h → fx S33 fN hb h → (∀ a, a ≤ i → xg 0 h.2.1 33 (T a) = nI (th B T n (j + 1) (T a))) → xq f xi_X0_foresee xmi_X0_foresee 28 [(0, .ref 28), (1, .ref 1), (2, .int (nI i))] [] h Q) : ∀ (m f a : Nat) (h : xh_H), a + m = i + 1 → a_rq a_tb h → fx S33 fN hb h → (∀ b, b < a → xg 0 h.2.1 33 (T b) = nI (th B T n (j + 1) (T b))) → (∀ b, a ≤ b → b ≤ i → xg 0 h.2.1 33 (T b) = nI (th B T n j (T b))) → xq f xi_X0_foresee xmi_X0_foresee 46 [(0, .ref 28), (1, .ref 1), (2, .int (nI (i + 1))), (3, .int (nI (th B T n j (T (i + 1))))), (4, .int (nI a))] [] h Q := by
  have n6 := hc.2.1
  intro m
  induction m with
  | zero =>
    intro f a h am hq ge w1 w2
    refine xq_n 28 [0, 1, 2] [(0, .ref 28), (1, .ref 1), (2, .int (nI (i + 1) + Int32.ofInt (-1)))] [] h [true] 60 hq rfl ⟨nge_t (by omega) (by omega) (by omega), trivial⟩ (fun _ => ?_)
    rw [nI_dec i]
    exact K f h hq ge (fun b hb' => w1 b (by omega))
  | succ m ih =>
    intro f a h am hq ge w1 w2
    have ta := tl a (by omega)
    refine xq_n 55 [0, 1, 2, 3, 4] [(0, .ref 28), (1, .ref 1), (2, .int (nI (i + 1))), (3, .int (nI (th B T n j (T (i + 1))))), (4, .int (nI a))] [.int (nI a), .ref 1] h [false] 60 hq rfl ⟨nge_f (by omega) (by omega) (by omega), trivial⟩ (fun _ => ?_)
    refine xq_run hq rfl rfl (at_q (ct_f hc ge rfl (fun _ => rfl)) (p := a) (by omega) hq) ?_
    rintro v h1 ⟨rfl, rfl⟩
    refine xq_n 75 [0, 1, 2, 3, 4] [(0, .ref 28), (1, .ref 1), (2, .int (nI (i + 1))), (3, .int (nI (th B T n j (T (i + 1))))), (4, .int (nI a))] [.int (nI (th B T n j (T (i + 1)))), .int (xg 0 h.2.1 33 (nI (T a)).toNatClampNeg), .ref 28, .int (nI (T a)), .ref 33] h [] 60 hq rfl trivial (fun _ => ?_)
    rw [nI_clamp (by omega), w2 a (by omega) (by omega)]
    refine xq_run hq rfl rfl (sta_q (s := th B T n j (T a)) (c := th B T n j (T (i + 1))) (B := B) (th_lt (by omega) tl j _ ta) (th_lt (by omega) tl j _ (tl _ (by omega))) (fun x hx => (fx_i ge rfl).trans (hB x hx)) hq) ?_
    rintro v h1 ⟨rfl, rfl⟩
    refine xq_n 46 [0, 1, 2, 3, 4] [(0, .ref 28), (1, .ref 1), (2, .int (nI (i + 1))), (3, .int (nI (th B T n j (T (i + 1))))), (4, .int (nI a + Int32.ofInt 1))] [] (xh_ui h 33 (nI (T a)).toNatClampNeg (nI (sd B (th B T n j (T a)) (th B T n j (T (i + 1)))))) [] 60 hq rfl trivial (fun _ => ?_)
    rw [show nI a + Int32.ofInt 1 = nI (a + 1) from nI_1 _, show (nI (T a)).toNatClampNeg = T a from nI_clamp (by omega)]
    refine ih f (a + 1) _ (by omega) (a_rq_ui hq) (fx_ui ge rfl) (fun b hb' => ?_) (fun b h1 h2 => ?_)
    · by_cases z : b = a
      · rw [z, gx_s]
        show _ = nI (sd B (th B T n j (T a)) (th B T n j (T (n - (j + 1)))))
        rw [show n - (j + 1) = i + 1 by omega]
      · have := fun e => z (inj b a (by omega) (by omega) e)
        exact (gx_k (by omega)).trans (w1 b (by omega))
    · have := fun e => (show ¬ b = a by omega) (inj b a (by omega) (by omega) e)
      exact (gx_k (by omega)).trans (w2 b (by omega) h2)
set_option maxRecDepth 100000 in
set_option maxHeartbeats 4000000 in
theorem fse_out (hc : ct hb T n) (tl : ∀ k, k < n → T k < 7) (inj : ∀ k l, k < n → l < n → T k = T l → k = l) (hB : ∀ x, x < 7 → xg 0 hb.2.1 31 x = nI (msk (B x) 7)) : ∀ (i f j : Nat) (h : xh_H), i + j + 1 = n → a_rq a_tb h → fx S33 fN hb h → (∀ a, a ≤ i → xg 0 h.2.1 33 (T a) = nI (th B T n j (T a))) → xq f xi_X0_foresee xmi_X0_foresee 28 [(0, .ref 28), (1, .ref 1), (2, .int (nI i))] [] h (fun v h' => fx S33 fN hb h' ∧ v = some (.int (nI (th B T n (n - 1) (T 0))))) := by
  have n6 := hc.2.1
  intro i
  induction i with
  | zero =>
    intro f j h ij hq ge w
    have t0 := tl 0 (by omega)
    refine xq_n 97 [0] [(0, .ref 28)] [.int (Int32.ofInt 0), .ref 1, .ref 33] h [true] 60 hq rfl ⟨rfl, trivial⟩ (fun _ => ?_)
    refine xq_run hq rfl rfl (at_q (ct_f hc ge rfl (fun _ => rfl)) (p := 0) (by omega) hq) ?_
    rintro v h1 ⟨rfl, rfl⟩
    refine xq_n 101 [] [] [.int (xg 0 h.2.1 33 (nI (T 0)).toNatClampNeg)] h [] 60 hq rfl trivial (fun _ => ?_)
    exact xq_ret rfl rfl rfl ⟨ge, by rw [nI_clamp (by omega), w 0 (by omega), show n - 1 = j by omega]⟩
  | succ i ih =>
    intro f j h ij hq ge w
    have t1 := tl (i + 1) (by omega)
    refine xq_n 38 [0, 1, 2] [(0, .ref 28), (1, .ref 1), (2, .int (nI (i + 1)))] [.int (nI (i + 1)), .ref 1, .ref 33] h [false] 60 hq rfl ⟨xle_f (by rw [nI_toInt (by omega)]; show (0 : Int) < _; omega), trivial⟩ (fun _ => ?_)
    refine xq_run hq rfl rfl (at_q (ct_f hc ge rfl (fun _ => rfl)) (p := i + 1) (by omega) hq) ?_
    rintro v h1 ⟨rfl, rfl⟩
    refine xq_n 46 [0, 1, 2, 3, 4] [(0, .ref 28), (1, .ref 1), (2, .int (nI (i + 1))), (3, .int (xg 0 h.2.1 33 (nI (T (i + 1))).toNatClampNeg)), (4, .int (Int32.ofInt 0))] [] h [] 60 hq rfl trivial (fun _ => ?_)
    rw [nI_clamp (by omega), w (i + 1) (by omega)]
    exact fse_in hc tl inj hB (i := i) (j := j) (by omega) (fun f h hq ge w => ih f (j + 1) h (by omega) hq ge w) (i + 1) f 0 h (by omega) hq ge (fun b hb' => absurd hb' (Nat.not_lt_zero b)) (fun b _ h2 => w b (by omega))
set_option maxRecDepth 100000 in
set_option maxHeartbeats 4000000 in
theorem fse_0 (n1 : 1 ≤ n) (hc : ct hb T n) (tl : ∀ k, k < n → T k < 7) (inj : ∀ k l, k < n → l < n → T k = T l → k = l) (hB : ∀ x, x < 7 → xg 0 hb.2.1 31 x = nI (msk (B x) 7)) : ∀ (m f x : Nat) (h : xh_H), x + m = 7 → a_rq a_tb h → fx S33 fN hb h → (∀ y, y < x → xg 0 h.2.1 33 y = nI y) → xq f xi_X0_foresee xmi_X0_foresee 2 [(0, .ref 28), (1, .ref 1), (2, .int (nI x))] [] h (fun v h' => fx S33 fN hb h' ∧ v = some (.int (nI (th B T n (n - 1) (T 0))))) := by
  have n6 := hc.2.1
  intro m
  induction m with
  | zero =>
    intro f x h xm hq ge w
    have e : x = 7 := by omega
    subst e
    refine xq_n 28 [0, 1, 2] [(0, .ref 28), (1, .ref 1), (2, .int (xg 0 h.2.1 1 1 - Int32.ofInt 1))] [] h [true] 60 hq rfl ⟨rfl, trivial⟩ (fun _ => ?_)
    rw [show xg 0 h.2.1 1 1 = nI n from (fx_i ge rfl).trans hc.1, show nI n - Int32.ofInt 1 = nI (n - 1) from nI_sub (b := 1) n1]
    exact fse_out hc tl inj hB (n - 1) f 0 h (by omega) hq ge (fun a ha => w _ (tl a (by omega)))
  | succ m ih =>
    intro f x h xm hq ge w
    refine xq_n 2 [0, 1, 2] [(0, .ref 28), (1, .ref 1), (2, .int (nI x + Int32.ofInt 1))] [] (xh_ui h 33 (nI x).toNatClampNeg (nI x)) [false] 60 hq rfl ⟨nge_f (b := 7) (by omega) (by decide) (by omega), trivial⟩ (fun _ => ?_)
    rw [show nI x + Int32.ofInt 1 = nI (x + 1) from nI_1 _, show (nI x).toNatClampNeg = x from nI_clamp (by omega)]
    refine ih f (x + 1) _ (by omega) (a_rq_ui hq) (fx_ui ge rfl) (fun y hy => ?_)
    by_cases z : y = x
    · rw [z, gx_s]
    · exact (gx_k (by omega)).trans (w y (by omega))
theorem fse_q {f : Nat} (n1 : 1 ≤ n) (hc : ct hb T n) (tl : ∀ k, k < n → T k < 7) (inj : ∀ k l, k < n → l < n → T k = T l → k = l) (hB : ∀ x, x < 7 → xg 0 hb.2.1 31 x = nI (msk (B x) 7)) (hq : a_rq a_tb hb) : xq f xi_X0_foresee xmi_X0_foresee 0 [(0, .ref 28), (1, .ref 1)] [] hb (fun v h' => fx S33 fN hb h' ∧ v = some (.int (nI (th B T n (n - 1) (T 0))))) := by
  refine xq_n 2 [0, 1, 2] [(0, .ref 28), (1, .ref 1), (2, .int (Int32.ofInt 0))] [] hb [] 60 hq rfl trivial (fun _ => ?_)
  exact fse_0 n1 hc tl inj hB 7 f 0 hb (by omega) hq fx_0 (fun y hy => absurd hy (Nat.not_lt_zero y))
end
/-- what leads answers -/
def ldA (B : Nat → Nat → Bool) (T : Nat → Nat) (n : Nat) (b : Int32) : Int32 := cond (decide (1 ≤ n ∧ n ≤ 7) && ro T n 0 (Int32.ofInt 0)) (cond (xe_c .eq b 0) (nI (fo B T (n - 1))) (nI (th B T n (n - 1) (T 0)))) (Int32.ofInt (-1))
set_option maxRecDepth 100000 in
set_option maxHeartbeats 4000000 in
theorem ld9_q {f mem sc n : Nat} {T : Nat → Nat} {b : Int32} {PL : Nat → Int32} {d : Int32} {h : xh_H} (hc : ct h T n) (hi : a_inv a_tb h) (e9 : xg 0 h.2.1 0 9 = nI mem) (m12 : mem ≤ 12) (e8 : xg 0 h.2.1 0 8 = nI sc) (sc8 : sc ≤ 8) (e10 : xg 0 h.2.1 0 10 = d) (si : SI h) (hP : ∀ k, k < 84 → xg 0 h.2.1 30 k = PL k) (hq : a_rq a_tb h) : xq f xi_X9_leads xmi_X9_leads 0 [(0, .ref 0), (1, .int b)] [] h (fun v h' => v = some (.int (ldA (BT PL (cvB (fun k => xg 0 h.2.1 51 k) (fun k => xg 0 h.2.1 44 k) mem sc d) mem) T n b))) := by
  obtain ⟨⟨u1, u2, u3⟩, si⟩ := si
  obtain ⟨SS, un⟩ := si mem sc e9 m12 e8 sc8
  unfold ldA
  refine xq_n 10 [0, 1, 2] [(0, .ref 0), (1, .int b), (2, .int (Int32.ofInt (-1)))] [.ref 1, .ref 28] h [] 60 hq rfl trivial (fun _ => ?_)
  refine xq_run hq rfl rfl (row_q hc hq) ?_
  rintro v h1 ⟨rfl, rfl⟩
  cases c1 : (decide (1 ≤ n ∧ n ≤ 7) && ro T n 0 (Int32.ofInt 0)) with
  | false =>
    refine xq_n 74 [] [] [.int (Int32.ofInt (-1))] (xh_ui h 1 1 (Int32.ofInt 0)) [true] 60 hq rfl ⟨rfl, trivial⟩ (fun _ => ?_)
    exact xq_ret rfl rfl rfl rfl
  | true =>
    rw [Bool.and_eq_true] at c1
    obtain ⟨c1, c2⟩ := c1
    have c1 := of_decide_eq_true c1
    obtain ⟨tl, inj⟩ := ro_t c2
    refine xq_n 25 [0, 1, 2] [(0, .ref 0), (1, .int b), (2, .int (Int32.ofInt (-1)))] [.int (xg 0 h.2.1 0 10), .ref 0, .ref 28] h [false] 60 hq rfl ⟨rfl, trivial⟩ (fun _ => ?_)
    rw [e10]
    refine xq_run hq rfl rfl (if9_q hi e8 sc8 u1 u2 SS hq) ?_
    rintro v h1 ⟨rfl, Q, rfl, fd⟩
    refine xq_n 32 [0, 1, 2] [(0, .ref 0), (1, .int b), (2, .int (Int32.ofInt (-1)))] [.int (xg 0 h.2.1 0 9), .ref Q, .ref 28] h [] 60 hq rfl trivial (fun _ => ?_)
    rw [e9]
    obtain ⟨r, g1, g2, -⟩ := hv_cv hi m12 SS un u3 hq (s := 0) (Nat.two_pow_pos mem) fd
    refine xq_run hq rfl rfl (mat_q (PL := PL) (W := cvB (fun k => xg 0 h.2.1 51 k) (fun k => xg 0 h.2.1 44 k) mem sc d) m12 fd.1 g1 g2 (fun s hs => by
      obtain ⟨r', g1', -, g3⟩ := hv_cv hi m12 SS un u3 hq hs fd
      rw [g1] at g1'
      cases g1'
      exact g3) hP hq) ?_
    rintro v h1 ⟨rfl, g4, w31⟩
    have hq := fx_q g4 hq
    have hc1 := ct_f hc g4 rfl (fun _ => rfl)
    cases c3 : xe_c .eq b 0 with
    | true =>
      refine xq_n 61 [0, 1, 2] [(0, .ref 0), (1, .int b), (2, .int (Int32.ofInt (-1)))] [.ref 1, .ref 28] h1 [true] 60 hq rfl ⟨c3, trivial⟩ (fun _ => ?_)
      refine xq_run hq rfl rfl (fol_q c1.1 hc1 tl w31 hq) ?_
      rintro v h2 ⟨rfl, rfl⟩
      refine xq_n 74 [] [] [.int (nI (fo (BT PL (cvB (fun k => xg 0 h.2.1 51 k) (fun k => xg 0 h.2.1 44 k) mem sc d) mem) T (n - 1)))] (xh_ui h1 1 1 (Int32.ofInt 0)) [] 60 hq rfl trivial (fun _ => ?_)
      exact xq_ret rfl rfl rfl rfl
    | false =>
      refine xq_n 47 [0, 1, 2] [(0, .ref 0), (1, .int b), (2, .int (Int32.ofInt (-1)))] [.ref 1, .ref 28] h1 [false] 60 hq rfl ⟨c3, trivial⟩ (fun _ => ?_)
      refine xq_run hq rfl rfl (fse_q c1.1 hc1 tl inj w31 hq) ?_
      rintro v h2 ⟨g5, rfl⟩
      have hq := fx_q g5 hq
      refine xq_n 74 [] [] [.int (nI (th (BT PL (cvB (fun k => xg 0 h.2.1 51 k) (fun k => xg 0 h.2.1 44 k) mem sc d) mem) T n (n - 1) (T 0)))] (xh_ui h2 1 1 (Int32.ofInt 0)) [] 60 hq rfl trivial (fun _ => ?_)
      exact xq_ret rfl rfl rfl rfl
section
variable {n : Nat} {T : Nat → Nat} {B : Nat → Nat → Bool} {hb : xh_H}
def S65 (c _k : Nat) : Bool := Nat.beq c 65
/-- what is come to, laid out -/
def tI (B : Nat → Nat → Bool) (T : Nat → Nat) (n k : Nat) (h : xh_H) : Prop := ∀ k' s, k < k' → k' ≤ n → s < 7 → xg 0 h.2.1 65 (7 * k' + s) = nI (th B T n (n - k') s)
theorem sd_e {s : Nat} : sd B s s = s := by unfold sd; split <;> rfl
theorem i7_c {k x : Nat} : 7 * nI k + 7 + nI x = nI (7 * (k + 1) + x) := by
  have e : 7 * nI k = nI (7 * k) := by
    have z := i7_b (m := k) (x := 0)
    rw [show (7 * nI k + nI 0 : Int32) = 7 * nI k from Int32.add_zero _] at z
    exact z
  rw [e, show (7 : Int32) = nI 7 from rfl, nI_add, nI_add]
  congr 1
set_option maxRecDepth 100000 in
set_option maxHeartbeats 4000000 in
theorem tn_in (n7 : n ≤ 7) (hT : ∀ k, k < n → T k < 256 ∧ xg 0 hb.2.1 40 k = nI (T k)) (tl : ∀ k, k < n → T k < 7) (hB : ∀ x y, x < 7 → y < 7 → xg 0 hb.2.1 63 (7 * x + y) = bl (B x y)) {v1 : Value} {k j : Nat} (kj : k + j + 2 = n) {Q : Option Value → xh_H → Prop} (K : ∀ (f : Nat) (h : xh_H), a_rq a_tb h → fx S65 fN hb h → tI B T n k h → xq f xi_X10_leads xmi_X10_leads 99 [(0, .ref 39), (2, .int (nI n)), (3, .int (nI k))] [] h Q) : ∀ (m f s : Nat) (h : xh_H), s + m = 7 → a_rq a_tb h → fx S65 fN hb h → tI B T n (k + 1) h → (∀ s', s' < s → xg 0 h.2.1 65 (7 * (k + 1) + s') = nI (th B T n (j + 1) s')) → xq f xi_X10_leads xmi_X10_leads 106 [(0, .ref 39), (2, .int (nI n)), (3, .int (nI (k + 1))), (4, .int (nI s))] [] h Q := by
  have nj : n - (j + 1) = k + 1 := by omega
  intro m
  induction m with
  | zero =>
    intro f s h sm hq ge I w
    have e : s = 7 := by omega
    subst e
    refine xq_n 99 [0, 2, 3] [(0, .ref 39), (2, .int (nI n)), (3, .int (nI (k + 1) + Int32.ofInt (-1)))] [] h [true] 60 hq rfl ⟨rfl, trivial⟩ (fun _ => ?_)
    rw [nI_dec k]
    refine K f h hq ge (fun k' s h1 h2 h3 => ?_)
    by_cases z : k' = k + 1
    · rw [z, show n - (k + 1) = j + 1 by omega]; exact w s h3
    · exact I k' s (by omega) h2 h3
  | succ m ih =>
    intro f s h sm hq ge I w
    have tk := tl (k + 1) (by omega)
    have wl : th B T n j (T (k + 1)) < 7 := th_lt (by omega) tl j _ tk
    have sl : th B T n j s < 7 := th_lt (by omega) tl j _ (by omega)
    refine xq_n 162 [0, 2, 3, 4, 5, 6] [(0, .ref 39), (2, .int (nI n)), (3, .int (nI (k + 1))), (4, .int (nI s)), (5, .int (xg 0 h.2.1 65 (7 * nI (k + 1) + 7 + xg 0 h.2.1 40 (nI (k + 1)).toNatClampNeg).toNatClampNeg)), (6, .int (xg 0 h.2.1 65 (7 * nI (k + 1) + 7 + nI s).toNatClampNeg))] [.int (7 * nI (k + 1) + nI s), .ref 65] h [false] 60 hq rfl ⟨nge_f (b := 7) (by omega) (by decide) (by omega), trivial⟩ (fun _ => ?_)
    rw [show (nI (k + 1)).toNatClampNeg = k + 1 from nI_clamp (by omega), show xg 0 h.2.1 40 (k + 1) = nI (T (k + 1)) from (fx_i ge rfl).trans (hT _ (by omega)).2, i7_c, i7_c, i7_b, show (nI (7 * (k + 1 + 1) + T (k + 1))).toNatClampNeg = 7 * (k + 1 + 1) + T (k + 1) from nI_clamp (by omega), show (nI (7 * (k + 1 + 1) + s)).toNatClampNeg = 7 * (k + 1 + 1) + s from nI_clamp (by omega), I (k + 1 + 1) _ (by omega) (by omega) tk, I (k + 1 + 1) s (by omega) (by omega) (by omega), show n - (k + 1 + 1) = j by omega]
    have go : ∀ (f : Nat) (y : Nat), sd B (th B T n j s) (th B T n j (T (k + 1))) = y → xq f xi_X10_leads xmi_X10_leads 106 [(0, .ref 39), (2, .int (nI n)), (3, .int (nI (k + 1))), (4, .int (nI s + Int32.ofInt 1))] [] (xh_ui h 65 (nI (7 * (k + 1) + s)).toNatClampNeg (nI y)) Q := fun f y hy => by
      rw [show nI s + Int32.ofInt 1 = nI (s + 1) from nI_1 _, show (nI (7 * (k + 1) + s)).toNatClampNeg = 7 * (k + 1) + s from nI_clamp (by omega)]
      refine ih f (s + 1) _ (by omega) (a_rq_ui hq) (fx_ui ge rfl) (fun k' s' h1 h2 h3 => (gx_k (by omega)).trans (I k' s' h1 h2 h3)) (fun s' hs' => ?_)
      by_cases z : s' = s
      · rw [z, gx_s, ← hy]
        show _ = nI (sd B (th B T n j s) (th B T n j (T (n - (j + 1)))))
        rw [nj]
      · exact (gx_k (by omega)).trans (w s' (by omega))
    cases c1 : xe_c .eq (nI (th B T n j (T (k + 1)))) (nI (th B T n j s)) with
    | true =>
      have z1 := nq_eqt (by omega) (by omega) c1
      refine xq_n 106 [0, 2, 3, 4] [(0, .ref 39), (2, .int (nI n)), (3, .int (nI (k + 1))), (4, .int (nI s + Int32.ofInt 1))] [] (xh_ui h 65 (nI (7 * (k + 1) + s)).toNatClampNeg (nI (th B T n j s))) [true] 60 hq rfl ⟨c1, trivial⟩ (fun _ => ?_)
      exact go f _ (by rw [z1]; exact sd_e)
    | false =>
      have a1 : xg 0 h.2.1 63 (7 * nI (th B T n j (T (k + 1))) + nI (th B T n j s)).toNatClampNeg = bl (B (th B T n j (T (k + 1))) (th B T n j s)) := by
        rw [i7_b, nI_clamp (by omega)]; exact (fx_i ge rfl).trans (hB _ _ wl sl)
      cases c2 : B (th B T n j (T (k + 1))) (th B T n j s) with
      | false =>
        refine xq_n 106 [0, 2, 3, 4] [(0, .ref 39), (2, .int (nI n)), (3, .int (nI (k + 1))), (4, .int (nI s + Int32.ofInt 1))] [] (xh_ui h 65 (nI (7 * (k + 1) + s)).toNatClampNeg (nI (th B T n j s))) [false, true] 60 hq rfl ⟨c1, (show xe_c .eq (xg 0 h.2.1 63 (7 * nI (th B T n j (T (k + 1))) + nI (th B T n j s)).toNatClampNeg) 0 = true by rw [a1, c2]; rfl), trivial⟩ (fun _ => ?_)
        exact go f _ (by unfold sd; rw [c2, if_neg (by decide)])
      | true =>
        refine xq_n 106 [0, 2, 3, 4] [(0, .ref 39), (2, .int (nI n)), (3, .int (nI (k + 1))), (4, .int (nI s + Int32.ofInt 1))] [] (xh_ui h 65 (nI (7 * (k + 1) + s)).toNatClampNeg (nI (th B T n j (T (k + 1))))) [false, false] 60 hq rfl ⟨c1, (show xe_c .eq (xg 0 h.2.1 63 (7 * nI (th B T n j (T (k + 1))) + nI (th B T n j s)).toNatClampNeg) 0 = false by rw [a1, c2]; rfl), trivial⟩ (fun _ => ?_)
        exact go f _ (by unfold sd; rw [c2, if_pos rfl])
set_option maxRecDepth 100000 in
set_option maxHeartbeats 4000000 in
theorem tn_out (n7 : n ≤ 7) (hT : ∀ k, k < n → T k < 256 ∧ xg 0 hb.2.1 40 k = nI (T k)) (tl : ∀ k, k < n → T k < 7) (hB : ∀ x y, x < 7 → y < 7 → xg 0 hb.2.1 63 (7 * x + y) = bl (B x y)) : ∀ (k f j : Nat) (h : xh_H), k + j + 1 = n → a_rq a_tb h → fx S65 fN hb h → tI B T n k h → xq f xi_X10_leads xmi_X10_leads 99 [(0, .ref 39), (2, .int (nI n)), (3, .int (nI k))] [] h (fun v h' => v = some (.int (nI (th B T n (n - 1) (T 0))))) := by
  intro k
  induction k with
  | zero =>
    intro f j h kj hq ge I
    have t0 := tl 0 (by omega)
    refine xq_n 219 [] [] [.int (xg 0 h.2.1 65 (7 + xg 0 h.2.1 40 0).toNatClampNeg)] h [true] 60 hq rfl ⟨rfl, trivial⟩ (fun _ => ?_)
    refine xq_ret rfl rfl rfl ?_
    rw [show xg 0 h.2.1 40 0 = nI (T 0) from (fx_i ge rfl).trans (hT _ (by omega)).2, show (7 : Int32) = nI 7 from rfl, nI_add, nI_clamp (by omega)]
    exact congrArg (fun z => some (Value.int z)) (I 1 (T 0) (by omega) (by omega) t0)
  | succ k ih =>
    intro f j h kj hq ge I
    refine xq_n 106 [0, 2, 3, 4] [(0, .ref 39), (2, .int (nI n)), (3, .int (nI (k + 1))), (4, .int (Int32.ofInt 0))] [] h [false] 60 hq rfl ⟨xle_f (by rw [nI_toInt (by omega)]; show (0 : Int) < _; omega), trivial⟩ (fun _ => ?_)
    exact tn_in n7 hT tl hB (v1 := .ref 0) (k := k) (j := j) (by omega) (fun f h hq ge I => ih f (j + 1) h (by omega) hq ge I) 7 f 0 h (by omega) hq ge I (fun s' hs' => absurd hs' (Nat.not_lt_zero s'))
set_option maxRecDepth 100000 in
set_option maxHeartbeats 4000000 in
theorem tn_0 (n1 : 1 ≤ n) (n7 : n ≤ 7) (hT : ∀ k, k < n → T k < 256 ∧ xg 0 hb.2.1 40 k = nI (T k)) (tl : ∀ k, k < n → T k < 7) (hB : ∀ x y, x < 7 → y < 7 → xg 0 hb.2.1 63 (7 * x + y) = bl (B x y)) : ∀ (m f s : Nat) (h : xh_H), s + m = 7 → a_rq a_tb h → fx S65 fN hb h → (∀ s', s' < s → xg 0 h.2.1 65 (7 * n + s') = nI s') → xq f xi_X10_leads xmi_X10_leads 71 [(0, .ref 39), (2, .int (nI n)), (3, .int (nI s))] [] h (fun v h' => v = some (.int (nI (th B T n (n - 1) (T 0))))) := by
  intro m
  induction m with
  | zero =>
    intro f s h sm hq ge w
    have e : s = 7 := by omega
    subst e
    refine xq_n 99 [0, 2, 3] [(0, .ref 39), (2, .int (nI n)), (3, .int (nI n - Int32.ofInt 1))] [] h [true] 60 hq rfl ⟨rfl, trivial⟩ (fun _ => ?_)
    rw [show nI n - Int32.ofInt 1 = nI (n - 1) from nI_sub (b := 1) n1]
    refine tn_out n7 hT tl hB (n - 1) f 0 h (by omega) hq ge (fun k' s h1 h2 h3 => ?_)
    have e : k' = n := by omega
    rw [e, Nat.sub_self]
    exact w s h3
  | succ m ih =>
    intro f s h sm hq ge w
    refine xq_n 71 [0, 2, 3] [(0, .ref 39), (2, .int (nI n)), (3, .int (nI s + Int32.ofInt 1))] [] (xh_ui h 65 (7 * nI n + nI s).toNatClampNeg (nI s)) [false] 60 hq rfl ⟨nge_f (b := 7) (by omega) (by decide) (by omega), trivial⟩ (fun _ => ?_)
    rw [show nI s + Int32.ofInt 1 = nI (s + 1) from nI_1 _, i7_b, show (nI (7 * n + s)).toNatClampNeg = 7 * n + s from nI_clamp (by omega)]
    refine ih f (s + 1) _ (by omega) (a_rq_ui hq) (fx_ui ge rfl) (fun y hy => ?_)
    by_cases z : y = s
    · rw [z, gx_s]
    · exact (gx_k (by omega)).trans (w y (by omega))
set_option maxRecDepth 100000 in
set_option maxHeartbeats 4000000 in
/-- X10.endOf -/
theorem eo_l {h : xh_H} (n7 : n ≤ 7) (hO : ∀ k, k < n → xg 0 h.2.1 66 k = nI (T k)) (tl : ∀ k, k < n → T k < 7) (hB : ∀ x y, x < 7 → y < 7 → xg 0 h.2.1 63 (7 * x + y) = bl (B x y)) (hq : a_rq a_tb h) : ∀ (j f i : Nat), i + j + 1 = n → xq f xi_X10_endOf xmi_X10_endOf 9 [(0, .ref 39), (1, .int (nI n)), (2, .int (nI (fo B T i))), (3, .int (nI (i + 1)))] [] h (fun v h' => h = h' ∧ v = some (.int (nI (fo B T (n - 1))))) := by
  intro j
  induction j with
  | zero =>
    intro f i ij
    refine xq_n 47 [] [] [.int (nI (fo B T i))] h [true] 60 hq rfl ⟨nge_t (by omega) (by omega) (by omega), trivial⟩ (fun _ => ?_)
    exact xq_ret rfl rfl rfl ⟨rfl, by rw [show n - 1 = i by omega]⟩
  | succ j ih =>
    intro f i ij
    have fl : fo B T i < 7 := fo_lt i (fun k hk' => tl k (by omega))
    have t1 := tl (i + 1) (by omega)
    have a0 : xg 0 h.2.1 66 (nI (i + 1)).toNatClampNeg = nI (T (i + 1)) := by rw [nI_clamp (by omega)]; exact hO _ (by omega)
    have a1 : xg 0 h.2.1 63 (7 * xg 0 h.2.1 66 (nI (i + 1)).toNatClampNeg + nI (fo B T i)).toNatClampNeg = bl (B (T (i + 1)) (fo B T i)) := by
      rw [a0, i7_b, nI_clamp (by omega)]; exact hB _ _ t1 fl
    have e : fo B T (i + 1) = sd B (fo B T i) (T (i + 1)) := rfl
    have r := ih f (i + 1) (by omega)
    rw [e] at r
    unfold sd at r
    cases c : B (T (i + 1)) (fo B T i) with
    | false =>
      rw [c, if_neg (by decide)] at r
      refine xq_n 9 [0, 1, 2, 3] [(0, .ref 39), (1, .int (nI n)), (2, .int (nI (fo B T i))), (3, .int (nI (i + 1) + Int32.ofInt 1))] [] h [false, true] 60 hq rfl ⟨nge_f (by omega) (by omega) (by omega), (show xe_c .eq (xg 0 h.2.1 63 (7 * xg 0 h.2.1 66 (nI (i + 1)).toNatClampNeg + nI (fo B T i)).toNatClampNeg) 0 = true by rw [a1, c]; rfl), trivial⟩ (fun _ => ?_)
      rw [show nI (i + 1) + Int32.ofInt 1 = nI (i + 1 + 1) from nI_1 _]
      exact r
    | true =>
      rw [c, if_pos rfl] at r
      refine xq_n 9 [0, 1, 2, 3] [(0, .ref 39), (1, .int (nI n)), (2, .int (xg 0 h.2.1 66 (nI (i + 1)).toNatClampNeg)), (3, .int (nI (i + 1) + Int32.ofInt 1))] [] h [false, false] 60 hq rfl ⟨nge_f (by omega) (by omega) (by omega), (show xe_c .eq (xg 0 h.2.1 63 (7 * xg 0 h.2.1 66 (nI (i + 1)).toNatClampNeg + nI (fo B T i)).toNatClampNeg) 0 = false by rw [a1, c]; rfl), trivial⟩ (fun _ => ?_)
      rw [show nI (i + 1) + Int32.ofInt 1 = nI (i + 1 + 1) from nI_1 _, a0]
      exact r
set_option maxRecDepth 100000 in
set_option maxHeartbeats 4000000 in
theorem eo_q {f : Nat} {h : xh_H} (n1 : 1 ≤ n) (n7 : n ≤ 7) (hO : ∀ k, k < n → xg 0 h.2.1 66 k = nI (T k)) (tl : ∀ k, k < n → T k < 7) (hB : ∀ x y, x < 7 → y < 7 → xg 0 h.2.1 63 (7 * x + y) = bl (B x y)) (hq : a_rq a_tb h) : xq f xi_X10_endOf xmi_X10_endOf 0 [(0, .ref 39), (1, .int (nI n))] [] h (fun v h' => h = h' ∧ v = some (.int (nI (fo B T (n - 1))))) := by
  refine xq_n 9 [0, 1, 2, 3] [(0, .ref 39), (1, .int (nI n)), (2, .int (xg 0 h.2.1 66 0)), (3, .int (Int32.ofInt 1))] [] h [] 60 hq rfl trivial (fun _ => ?_)
  rw [hO 0 (by omega)]
  exact eo_l n7 hO tl hB hq (n - 1) f 0 (by omega)
def S66 (c _k : Nat) : Bool := Nat.beq c 66
set_option maxRecDepth 100000 in
set_option maxHeartbeats 4000000 in
theorem or_l (n1 : 1 ≤ n) (n7 : n ≤ 7) (hT : ∀ k, k < n → T k < 256 ∧ xg 0 hb.2.1 40 k = nI (T k)) (tl : ∀ k, k < n → T k < 7) (hB : ∀ x y, x < 7 → y < 7 → xg 0 hb.2.1 63 (7 * x + y) = bl (B x y)) : ∀ (m f i : Nat) (h : xh_H), i + m = n → a_rq a_tb h → fx S66 fN hb h → (∀ k, k < i → xg 0 h.2.1 66 k = nI (T k)) → xq f xi_X10_leads xmi_X10_leads 40 [(0, .ref 39), (2, .int (nI n)), (3, .int (nI i))] [] h (fun v h' => v = some (.int (nI (fo B T (n - 1))))) := by
  intro m
  induction m with
  | zero =>
    intro f i h im hq ge w
    refine xq_n 65 [] [] [.int (nI n), .ref 39] h [true] 60 hq rfl ⟨nge_t (by omega) (by omega) (by omega), trivial⟩ (fun _ => ?_)
    refine xq_run hq rfl rfl (eo_q n1 n7 (fun k hk' => w k (by omega)) tl (fun x y hx hy => (fx_i ge rfl).trans (hB x y hx hy)) hq) ?_
    rintro v h1 ⟨rfl, rfl⟩
    exact xq_ret rfl rfl rfl rfl
  | succ m ih =>
    intro f i h im hq ge w
    refine xq_n 40 [0, 2, 3] [(0, .ref 39), (2, .int (nI n)), (3, .int (nI i + Int32.ofInt 1))] [] (xh_ui h 66 (nI i).toNatClampNeg (xg 0 h.2.1 40 (nI i).toNatClampNeg)) [false] 60 hq rfl ⟨nge_f (by omega) (by omega) (by omega), trivial⟩ (fun _ => ?_)
    rw [show nI i + Int32.ofInt 1 = nI (i + 1) from nI_1 _, show (nI i).toNatClampNeg = i from nI_clamp (by omega), show xg 0 h.2.1 40 i = nI (T i) from (fx_i ge rfl).trans (hT _ (by omega)).2]
    refine ih f (i + 1) _ (by omega) (a_rq_ui hq) (fx_ui ge rfl) (fun y hy => ?_)
    by_cases z : y = i
    · rw [z, gx_s]
    · exact (gx_k (by omega)).trans (w y (by omega))
end
set_option maxRecDepth 100000 in
set_option maxHeartbeats 4000000 in
theorem ld10_q {f mem sc n : Nat} {T : Nat → Nat} {b : Int32} {FR RW PL : Nat → Int32} {d : Int32} {h : xh_H} (n6 : n ≤ 640) (e2 : xg 0 h.2.1 39 2 = nI n) (hT : ∀ k, k < n → T k < 256 ∧ xg 0 h.2.1 40 k = nI (T k)) (m12 : mem ≤ 12) (e4 : xg 0 h.2.1 39 4 = nI mem) (e33 : xg 0 h.2.1 39 33 = nI sc) (sc8 : sc ≤ 8) (e3 : xg 0 h.2.1 39 3 = d) (hF : ∀ k, k < sc → xg 0 h.2.1 51 k = FR k) (hTd : ∀ k, k < sc → (xg 0 h.2.1 52 k).toInt ≤ 999) (hR : ∀ k s, k < sc → s < 2 ^ mem → ∃ b : Bool, RW (4096 * k + s) = bl b ∧ xg 0 h.2.1 44 (4096 * k + s) = bl b) (hP : ∀ k, k < 84 → xg 0 h.2.1 62 k = PL k) (hq : a_rq a_tb h) : xq f xi_X10_leads xmi_X10_leads 0 [(0, .ref 39), (1, .int b)] [] h (fun v h' => v = some (.int (ldA (BT PL (cvB FR RW mem sc d) mem) T n b))) := by
  unfold ldA
  refine xq_n 6 [0, 1] [(0, .ref 39), (1, .int b)] [.ref 39] (xh_ui h 39 0 (Int32.ofInt 0)) [] 60 hq rfl trivial (fun _ => ?_)
  have hq : a_rq a_tb (xh_ui h 39 0 (Int32.ofInt 0)) := a_rq_ui hq
  refine xq_run hq rfl rfl (take_q hq) ?_
  rintro v h1 ⟨rfl, rfl⟩
  rw [show xg 0 (xh_ui h 39 0 (Int32.ofInt 0)).2.1 39 2 = nI n from (gx_k (by decide)).trans e2]
  generalize hh : xh_ui (xh_ui h 39 0 (Int32.ofInt 0)) 39 2 (Int32.ofInt 0) = h1
  have hq : a_rq a_tb h1 := by rw [← hh]; exact a_rq_ui hq
  have hk : ∀ c k, (c = 39 → k ≠ 0 ∧ k ≠ 2) → xg 0 h1.2.1 c k = xg 0 h.2.1 c k := fun c k z => by
    rw [← hh]
    by_cases y : c = 39
    · subst y
      obtain ⟨z1, z2⟩ := z rfl
      exact (gx_k (by omega)).trans (gx_k (by omega))
    · exact (gx_o (by omega)).trans (gx_o (by omega))
  refine xq_n 14 [0, 1, 2] [(0, .ref 39), (1, .int b), (2, .int (nI n))] [.int 7, .int (Int32.ofInt 1), .int (nI n)] h1 [] 60 hq rfl trivial (fun _ => ?_)
  refine xq_run hq rfl rfl (isIn_q hq) ?_
  rintro v h2 ⟨rfl, rfl⟩
  rw [show decide ((Int32.ofInt 1).toInt ≤ (nI n).toInt ∧ (nI n).toInt ≤ (7 : Int32).toInt) = decide (1 ≤ n ∧ n ≤ 7) by rw [nI_toInt (by omega)]; refine decide_eq_decide.mpr ?_; show ((1 : Int) ≤ _ ∧ _ ≤ (7 : Int)) ↔ _; omega]
  cases c1 : decide (1 ≤ n ∧ n ≤ 7) with
  | false =>
    refine xq_n 29 [] [] [.int (Int32.ofInt (-1))] h1 [true] 60 hq rfl ⟨rfl, trivial⟩ (fun _ => ?_)
    exact xq_ret rfl rfl rfl rfl
  | true =>
    have c1 := of_decide_eq_true c1
    refine xq_n 22 [0, 1, 2] [(0, .ref 39), (1, .int b), (2, .int (nI n))] [.int (nI n), .ref 39] h1 [false] 60 hq rfl ⟨rfl, trivial⟩ (fun _ => ?_)
    have hT1 : ∀ k, k < n → T k < 256 ∧ xg 0 h1.2.1 40 k = nI (T k) := fun k hk' => ⟨(hT k hk').1, (hk 40 k (fun z => absurd z (by decide))).trans (hT k hk').2⟩
    refine xq_run hq rfl rfl (are_q n6 hT1 hq) ?_
    rintro v h2 ⟨rfl, rfl⟩
    cases c2 : ro T n 0 (Int32.ofInt 0) with
    | false =>
      refine xq_n 29 [] [] [.int (Int32.ofInt (-1))] h1 [false] 60 hq rfl ⟨rfl, trivial⟩ (fun _ => ?_)
      exact xq_ret rfl rfl rfl rfl
    | true =>
      obtain ⟨tl, -⟩ := ro_t c2
      refine xq_n 31 [0, 1, 2] [(0, .ref 39), (1, .int b), (2, .int (nI n))] [.ref 39] h1 [true] 60 hq rfl ⟨rfl, trivial⟩ (fun _ => ?_)
      refine xq_run hq rfl rfl (lop_q (FR := FR) (RW := RW) (PL := PL) (d := d) m12 ((hk 39 4 (fun _ => by decide)).trans e4) ((hk 39 33 (fun _ => by decide)).trans e33) sc8 ((hk 39 3 (fun _ => by decide)).trans e3) (fun k hk' => (hk 51 k (fun z => absurd z (by decide))).trans (hF k hk')) (fun k hk' => by rw [hk 52 k (fun z => absurd z (by decide))]; exact hTd k hk') (fun k s h1 h2 => by obtain ⟨b, b1, b2⟩ := hR k s h1 h2; exact ⟨b, b1, (hk 44 _ (fun z => absurd z (by decide))).trans b2⟩) (fun k hk' => (hk 62 k (fun z => absurd z (by decide))).trans (hP k hk')) hq) ?_
      rintro v h2 ⟨rfl, g1, w53, w63, w64⟩
      have hq := fx_q g1 hq
      have hT2 : ∀ k, k < n → T k < 256 ∧ xg 0 h2.2.1 40 k = nI (T k) := fun k hk' => ⟨(hT k hk').1, (fx_i g1 rfl).trans (hT1 k hk').2⟩
      cases c3 : xe_c .eq b 0 with
      | true =>
        refine xq_n 40 [0, 2, 3] [(0, .ref 39), (2, .int (nI n)), (3, .int (Int32.ofInt 0))] [] h2 [false] 60 hq rfl ⟨(show (!xe_c .eq b 0) = false by rw [c3]; rfl), trivial⟩ (fun _ => ?_)
        exact or_l c1.1 c1.2 hT2 tl w63 n f 0 h2 (by omega) hq fx_0 (fun k hk' => absurd hk' (Nat.not_lt_zero k))
      | false =>
        refine xq_n 71 [0, 2, 3] [(0, .ref 39), (2, .int (nI n)), (3, .int (Int32.ofInt 0))] [] h2 [true] 60 hq rfl ⟨(show (!xe_c .eq b 0) = true by rw [c3]; rfl), trivial⟩ (fun _ => ?_)
        exact tn_0 c1.1 c1.2 hT2 tl w63 7 f 0 h2 (by omega) hq fx_0 (fun k hk' => absurd hk' (Nat.not_lt_zero k))
end XLE
