section XPL
/-- all others -/
def co (m s : Nat) : Nat := 2 ^ m - (s + 1)
theorem co_lt {m s : Nat} : co m s < 2 ^ m := by have := Nat.two_pow_pos m; unfold co; omega
theorem co_tb {m s i : Nat} (hs : s < 2 ^ m) : (co m s).testBit i = (decide (i < m) && !s.testBit i) := Nat.testBit_two_pow_sub_succ hs i
theorem coc_n {m s : Nat} (m12 : m ≤ 12) (hs : s < 2 ^ m) : nI (2 ^ m - 1) &&& (nI s ^^^ Int32.ofInt (-1)) = nI (co m s) := nI_andn (fun i _ => by
  rw [co_tb hs, Nat.testBit_two_pow_sub_one])
/-- without one -/
def rmb (s a : Nat) : Nat := s ^^^ (s &&& 2 ^ a)
theorem rmb_tb {s a i : Nat} : (rmb s a).testBit i = (s.testBit i && !decide (a = i)) := by
  unfold rmb
  rw [Nat.testBit_xor, Nat.testBit_and, Nat.testBit_two_pow]
  cases s.testBit i <;> cases decide (a = i) <;> rfl
theorem rmb_lt {s a m : Nat} (hs : s < 2 ^ m) : rmb s a < 2 ^ m := Nat.xor_lt_two_pow hs (Nat.lt_of_le_of_lt Nat.and_le_left hs)
theorem rmb_n {s a : Nat} (ha : a ≤ 11) : nI s &&& ((Int32.ofInt 1 <<< (nI a &&& 31)) ^^^ Int32.ofInt (-1)) = nI (rmb s a) := by
  rw [sh1 a (by omega)]
  exact nI_andn (fun i _ => by rw [rmb_tb, Nat.testBit_two_pow])
/-- carries, or hinders -/
def dz (W : Nat → Bool) (m : Nat) (hd : Bool) (s : Nat) : Bool := cond hd (!W (co m s)) (W s)
/-- .. and no less does -/
def mi (W : Nat → Bool) (m : Nat) (hd : Bool) (s : Nat) : Bool := dz W m hd s && aln (fun a => !(s.testBit a && dz W m hd (rmb s a))) m
/-- how many members -/
def sz (s : Nat) : Nat := cnt (fun i => s.testBit i) 12
theorem sz_le {s : Nat} : sz s ≤ 12 := cnt_le 12
theorem bc_sz : ((List.range 4096).all fun k => decide (bc (nI k) = nI (sz k))) = true := by decide +kernel
theorem bit_q {f s : Nat} {h : xh_H} (hs : s < 4096) (hq : a_rq a_tb h) : xq f xi_J6_bitCount_0f7a4 xmi_J6_bitCount_0f7a4 0 [(0, .int (nI s))] [] h (fun v h' => h = h' ∧ v = some (.int (nI (sz s)))) := by
  have e := of_decide_eq_true (List.all_eq_true.mp bc_sz s (List.mem_range.mpr hs))
  refine xq_of (d := 0) ⟨_, rfl⟩ ⟨some (.int (bc (nI s))), h, bc_run 0 (nI s) h, rfl, by rw [e]⟩
section
variable {W : Nat → Bool} {m q r : Nat} {h : xh_H}
set_option maxRecDepth 100000 in
set_option maxHeartbeats 4000000 in
/-- Powers.does -/
theorem does_q {f s : Nat} {hd : Bool} (A : LA W m q r h) (m12 : m ≤ 12) (hs : s < 2 ^ m) (hq : a_rq a_tb h) : xq f xi_X2_does xmi_X2_does 0 [(0, .ref 14), (1, .int (nI s)), (2, .int (bl hd))] [] h (fun v h' => h = h' ∧ v = some (.int (bl (dz W m hd s)))) := by
  cases hd with
  | false =>
    refine xq_n 35 [] [] [.int (nI s), va_rf (xg none h.2.2.2 14 6)] h [true] 60 hq rfl ⟨rfl, trivial⟩ (fun _ => ?_)
    rw [A.1]
    refine xq_cr (As := [.ref q, .int (nI (s))]) (mj := xmi_X7_holds) (q := []) rfl rfl (fun _ _ => rfl) (xa_cs_ok (d := 0) (pc := 0) (lv := []) (nL := 0) A.2.1 rfl).1 (fun f => hl_q A m12 (hs) hq) ?_
    rintro v h1 ⟨rfl, rfl⟩
    exact xq_ret rfl rfl rfl ⟨rfl, rfl⟩
  | true =>
    refine xq_n 16 [] [] [.int (xg 0 h.2.1 14 8 &&& (nI s ^^^ Int32.ofInt (-1))), va_rf (xg none h.2.2.2 14 6)] h [false] 60 hq rfl ⟨rfl, trivial⟩ (fun _ => ?_)
    rw [A.1, A.2.2.2.2.2.1, coc_n m12 hs]
    refine xq_cr (As := [.ref q, .int (nI (co m s))]) (mj := xmi_X7_holds) (q := []) rfl rfl (fun _ _ => rfl) (xa_cs_ok (d := 0) (pc := 0) (lv := []) (nL := 0) A.2.1 rfl).1 (fun f => hl_q A m12 (co_lt) hq) ?_
    rintro v h1 ⟨rfl, rfl⟩
    show xq f _ _ _ _ _ _ (fun v h' => h = h' ∧ v = some (.int (bl (!W (co m s)))))
    cases W (co m s) with
    | true =>
      refine xq_n 38 [] [] [.int (Int32.ofInt 0)] h [true] 60 hq rfl ⟨rfl, trivial⟩ (fun _ => ?_)
      exact xq_ret rfl rfl rfl ⟨rfl, rfl⟩
    | false =>
      refine xq_n 38 [] [] [.int (Int32.ofInt 1)] h [false] 60 hq rfl ⟨rfl, trivial⟩ (fun _ => ?_)
      exact xq_ret rfl rfl rfl ⟨rfl, rfl⟩
set_option maxRecDepth 100000 in
set_option maxHeartbeats 4000000 in
/-- Powers.isMinimal -/
theorem ism_l {s : Nat} {hd : Bool} (A : LA W m q r h) (m12 : m ≤ 12) (hs : s < 2 ^ m) (c0 : dz W m hd s = true) (hq : a_rq a_tb h) : ∀ (j f a : Nat), a + j = m → aln (fun a => !(s.testBit a && dz W m hd (rmb s a))) a = true → xq f xi_X2_isMinimal xmi_X2_isMinimal 13 [(0, .ref 14), (1, .int (nI s)), (2, .int (bl hd)), (3, .int (nI a))] [] h (fun v h' => h = h' ∧ v = some (.int (bl (mi W m hd s)))) := by
  have p12 : 2 ^ m ≤ 4096 := show 2 ^ m ≤ 2 ^ 12 from Nat.pow_le_pow_right (by decide) m12
  intro j
  induction j with
  | zero =>
    intro f a aj w
    have e : a = m := by omega
    subst e
    refine xq_n 53 [] [] [.int (Int32.ofInt 1)] h [true] 60 hq rfl ⟨(show xe_c .ge (nI a) (xg 0 h.2.1 14 7) = true by rw [A.2.2.2.2.1]; exact nge_t (by omega) (by omega) (Nat.le_refl _)), trivial⟩ (fun _ => ?_)
    exact xq_ret rfl rfl rfl ⟨rfl, by unfold mi; rw [c0, w]; rfl⟩
  | succ j ih =>
    intro f a aj w
    have g0 : xe_c .ge (nI a) (xg 0 h.2.1 14 7) = false := by rw [A.2.2.2.2.1]; exact nge_f (by omega) (by omega) (by omega)
    have g1 := be' (rb0 m12 hs (show a < m by omega))
    cases c1 : s.testBit a with
    | false =>
      rw [c1] at g1
      refine xq_n 13 [0, 1, 2, 3] [(0, .ref 14), (1, .int (nI s)), (2, .int (bl hd)), (3, .int (nI a + Int32.ofInt 1))] [] h [false, true] 60 hq rfl ⟨g0, g1, trivial⟩ (fun _ => ?_)
      rw [nI_1']
      exact ih f (a + 1) (by omega) (aln_s w (by rw [c1]; rfl))
    | true =>
      rw [c1] at g1
      refine xq_n 38 [0, 1, 2, 3] [(0, .ref 14), (1, .int (nI s)), (2, .int (bl hd)), (3, .int (nI a))] [.int (bl hd), .int (nI s &&& ((Int32.ofInt 1 <<< (nI a &&& 31)) ^^^ Int32.ofInt (-1))), .ref 14] h [false, false] 60 hq rfl ⟨g0, g1, trivial⟩ (fun _ => ?_)
      rw [rmb_n (by omega)]
      refine xq_run hq rfl rfl (does_q A m12 (rmb_lt hs) hq) ?_
      rintro v h1 ⟨rfl, rfl⟩
      cases c2 : dz W m hd (rmb s a) with
      | true =>
        refine xq_n 45 [] [] [.int (Int32.ofInt 0)] h [false] 60 hq rfl ⟨rfl, trivial⟩ (fun _ => ?_)
        exact xq_ret rfl rfl rfl ⟨rfl, by unfold mi; rw [aln_f (k := a) (by rw [c1, c2]; rfl) m (by omega), Bool.and_false]; rfl⟩
      | false =>
        refine xq_n 13 [0, 1, 2, 3] [(0, .ref 14), (1, .int (nI s)), (2, .int (bl hd)), (3, .int (nI a + Int32.ofInt 1))] [] h [true] 60 hq rfl ⟨rfl, trivial⟩ (fun _ => ?_)
        rw [nI_1']
        exact ih f (a + 1) (by omega) (aln_s w (by rw [c1, c2]; rfl))
set_option maxRecDepth 100000 in
set_option maxHeartbeats 4000000 in
theorem ism_q {f s : Nat} {hd : Bool} (A : LA W m q r h) (m12 : m ≤ 12) (hs : s < 2 ^ m) (hq : a_rq a_tb h) : xq f xi_X2_isMinimal xmi_X2_isMinimal 0 [(0, .ref 14), (1, .int (nI s)), (2, .int (bl hd))] [] h (fun v h' => h = h' ∧ v = some (.int (bl (mi W m hd s)))) := by
  refine xq_n 3 [0, 1, 2] [(0, .ref 14), (1, .int (nI s)), (2, .int (bl hd))] [.int (bl hd), .int (nI s), .ref 14] h [] 60 hq rfl trivial (fun _ => ?_)
  refine xq_run hq rfl rfl (does_q A m12 hs hq) ?_
  rintro v h1 ⟨rfl, rfl⟩
  cases c0 : dz W m hd s with
  | false =>
    refine xq_n 10 [] [] [.int (Int32.ofInt 0)] h [false] 60 hq rfl ⟨rfl, trivial⟩ (fun _ => ?_)
    exact xq_ret rfl rfl rfl ⟨rfl, by unfold mi; rw [c0]; rfl⟩
  | true =>
    refine xq_n 13 [0, 1, 2, 3] [(0, .ref 14), (1, .int (nI s)), (2, .int (bl hd)), (3, .int (Int32.ofInt 0))] [] h [true] 60 hq rfl ⟨rfl, trivial⟩ (fun _ => ?_)
    exact ism_l A m12 hs c0 hq m f 0 (by omega) rfl
end
/-- those of one size -/
def qk (P : Nat → Bool) (k t : Nat) : Bool := P t && decide (sz t = k)
/-- how many are smaller -/
def cum (P : Nat → Bool) (N : Nat) : Nat → Nat
  | 0 => 0
  | j + 1 => cum P N j + cnt (qk P j) N
/-- where a set goes -/
def rk (P : Nat → Bool) (N t : Nat) : Nat := cum P N (sz t) + cnt (qk P (sz t)) t
theorem cnt_m {P : Nat → Bool} : ∀ {a b : Nat}, a ≤ b → cnt P a ≤ cnt P b := by
  intro a b h
  induction b with
  | zero => rw [show a = 0 by omega]; exact Nat.le_refl _
  | succ b ih =>
    by_cases z : a = b + 1
    · rw [z]; exact Nat.le_refl _
    · have := ih (by omega)
      show _ ≤ if P b = true then cnt P b + 1 else cnt P b
      split <;> omega
theorem cnt_lt {P : Nat → Bool} {a b : Nat} (hp : P a = true) (h : a < b) : cnt P a < cnt P b := by
  have := cnt_m (P := P) (show a + 1 ≤ b by omega)
  rw [cnt_t hp] at this
  omega
theorem cum_m {P : Nat → Bool} {N : Nat} : ∀ {a b : Nat}, a ≤ b → cum P N a ≤ cum P N b := by
  intro a b h
  induction b with
  | zero => rw [show a = 0 by omega]; exact Nat.le_refl _
  | succ b ih =>
    by_cases z : a = b + 1
    · rw [z]; exact Nat.le_refl _
    · have := ih (by omega)
      show _ ≤ cum P N b + cnt (qk P b) N
      omega
theorem qk_s {P : Nat → Bool} {t : Nat} (h : P t = true) : qk P (sz t) t = true := by unfold qk; rw [h, decide_eq_true rfl]; rfl
theorem rk_lt {P : Nat → Bool} {N t : Nat} (h : P t = true) (ht : t < N) : rk P N t < cum P N (sz t + 1) := by
  have := cnt_lt (qk_s h) ht
  show _ < cum P N (sz t) + cnt (qk P (sz t)) N
  unfold rk
  omega
theorem rk_ij {P : Nat → Bool} {N t t' : Nat} (h : P t = true) (h' : P t' = true) (ht : t < N) (ht' : t' < N) (e : rk P N t = rk P N t') : t = t' := by
  have a := rk_lt h ht
  have b := rk_lt h' ht'
  rcases Nat.lt_trichotomy (sz t) (sz t') with z | z | z
  · have c := cum_m (P := P) (N := N) (show sz t + 1 ≤ sz t' by omega)
    unfold rk at *
    omega
  · unfold rk at e
    rw [z] at e
    have q := qk_s h
    have q' := qk_s h'
    rw [z] at q
    rcases Nat.lt_trichotomy t t' with y | y | y
    · have := cnt_lt q y; omega
    · exact y
    · have := cnt_lt q' y; omega
  · have c := cum_m (P := P) (N := N) (show sz t' + 1 ≤ sz t by omega)
    unfold rk at *
    omega
theorem xq_sd {f mid : Nat} {mi : xm_M} {pc pc1 : Nat} {lv : List (Nat × Value)} {st st1 : List Value} {h h1 : xh_H} {Q : Option Value → xh_H → Prop} {r : xr_R} (hr : xC mid pc = some r) (hi : xe_isr r.1 = false) (h2 : ∀ d lw, xe_2 none mi.2.2.2.1 r (d + 1) pc lw st h 0 0 = some (pc1, lw, st1, h1, 0, 0)) (h0 : ∀ lw, xe_2 none mi.2.2.2.1 r 0 pc lw st h 0 0 = none) (k : xq f mid mi pc1 lv st1 h1 Q) : xq f mid mi pc lv st h Q := by
  intro d lw w h' c s hs hx
  obtain ⟨g, eg, ⟨o', e2, e3⟩ | ⟨e2, d', -, -, -, -, -, -, -, e, -⟩⟩ := xq_s hr hi hx
  · cases d with
    | zero => rw [h0] at e2; cases e2
    | succ d =>
      rw [h2] at e2
      cases e2
      exact k (d + 1) lw w h' c s hs (xe_x_le (by omega) e3)
  · rw [e, h2] at e2
    cases e2
theorem cum_b {P : Nat → Bool} {N : Nat} : ∀ j, cum P N j ≤ N * j := by
  intro j
  induction j with
  | zero => exact Nat.le_refl _
  | succ j ih =>
    have := cnt_le (P := qk P j) N
    show cum P N j + cnt (qk P j) N ≤ N * (j + 1)
    rw [Nat.mul_succ]
    omega
/-- no more than the row holds -/
def mn (n : Nat) : Int32 := if (924 : Int32) < nI n then 924 else nI n
def SL15 (c _k : Nat) : Bool := Nat.beq c 18 || Nat.beq c 15
set_option maxRecDepth 100000 in
set_option maxHeartbeats 4000000 in
theorem lz15_1 {hd : Bool} {hb : xh_H} {Q : Option Value → xh_H → Prop} (K : ∀ (f : Nat) (h : xh_H), a_rq a_tb h → fx SL15 fN hb h → (∀ j, j < 14 → xg 0 h.2.1 18 j = nI 0) → xq f xi_X2_list xmi_X2_list 26 [(0, .ref 14), (1, .ref 15), (2, .int (bl hd)), (3, .int (nI 0))] [] h Q) : ∀ (n f i : Nat) (h : xh_H), i + n = 14 → a_rq a_tb h → fx SL15 fN hb h → (∀ j, j < i → xg 0 h.2.1 18 j = nI 0) → xq f xi_X2_list xmi_X2_list 2 [(0, .ref 14), (1, .ref 15), (2, .int (bl hd)), (3, .int (nI i))] [] h Q := by
  intro n
  induction n with
  | zero =>
    intro f i h hn hq ge w
    have e : i = 14 := by omega
    subst e
    refine xq_n 26 [0, 1, 2, 3] [(0, .ref 14), (1, .ref 15), (2, .int (bl hd)), (3, .int (Int32.ofInt 0))] [] h [true] 60 hq rfl ⟨rfl, trivial⟩ (fun _ => ?_)
    exact K f h hq ge w
  | succ n ih =>
    intro f i h hn hq ge w
    refine xq_n 2 [0, 1, 2, 3] [(0, .ref 14), (1, .ref 15), (2, .int (bl hd)), (3, .int (nI i + Int32.ofInt 1))] [] (xh_ui h 18 (nI i).toNatClampNeg (Int32.ofInt 0)) [false] 60 hq rfl ⟨nge_f (b := 14) (by omega) (by decide) (by omega), trivial⟩ (fun _ => ?_)
    rw [nI_1', show (nI i).toNatClampNeg = i from nI_clamp (by omega)]
    refine ih f (i + 1) _ (by omega) (a_rq_ui hq) (fx_ui ge rfl) (fun j hj => ?_)
    by_cases z : j = i
    · rw [z, gx_s]; rfl
    · exact (gx_k (by omega)).trans (w j (by omega))
set_option maxRecDepth 100000 in
set_option maxHeartbeats 4000000 in
theorem lz15_2 {W : Nat → Bool} {m q r : Nat} {hd : Bool} {hb : xh_H} {Q : Option Value → xh_H → Prop} (A : LA W m q r hb) (m12 : m ≤ 12) (K : ∀ (f : Nat) (h : xh_H), a_rq a_tb h → fx SL15 fN hb h → xg 0 h.2.1 18 0 = nI 0 → (∀ k, k ≤ 12 → xg 0 h.2.1 18 (k + 1) = nI (cnt (qk (mi W m hd) k) (2 ^ m))) → xq f xi_X2_list xmi_X2_list 66 [(0, .ref 14), (1, .ref 15), (2, .int (bl hd)), (3, .int (nI 1))] [] h Q) : ∀ (n f s : Nat) (h : xh_H), s + n = 2 ^ m → a_rq a_tb h → fx SL15 fN hb h → xg 0 h.2.1 18 0 = nI 0 → (∀ k, k ≤ 12 → xg 0 h.2.1 18 (k + 1) = nI (cnt (qk (mi W m hd) k) s)) → xq f xi_X2_list xmi_X2_list 26 [(0, .ref 14), (1, .ref 15), (2, .int (bl hd)), (3, .int (nI s))] [] h Q := by
  have p12 : 2 ^ m ≤ 4096 := show 2 ^ m ≤ 2 ^ 12 from Nat.pow_le_pow_right (by decide) m12
  intro n
  induction n with
  | zero =>
    intro f s h hn hq ge w0 w
    have e : s = 2 ^ m := by omega
    subst e
    refine xq_n 66 [0, 1, 2, 3] [(0, .ref 14), (1, .ref 15), (2, .int (bl hd)), (3, .int (Int32.ofInt 1))] [] h [true] 60 hq rfl ⟨gtt (LA_f A ge rfl rfl) m12, trivial⟩ (fun _ => ?_)
    exact K f h hq ge w0 w
  | succ n ih =>
    intro f s h hn hq ge w0 w
    have hs : s < 2 ^ m := by omega
    have A' := LA_f A ge rfl rfl
    refine xq_n 37 [0, 1, 2, 3] [(0, .ref 14), (1, .ref 15), (2, .int (bl hd)), (3, .int (nI s))] [.int (bl hd), .int (nI s), .ref 14] h [false] 60 hq rfl ⟨gtf A' m12 hs, trivial⟩ (fun _ => ?_)
    refine xq_run hq rfl rfl (ism_q A' m12 hs hq) ?_
    rintro v h1 ⟨rfl, rfl⟩
    cases c : mi W m hd s with
    | false =>
      refine xq_n 26 [0, 1, 2, 3] [(0, .ref 14), (1, .ref 15), (2, .int (bl hd)), (3, .int (nI s + Int32.ofInt 1))] [] h [true] 60 hq rfl ⟨rfl, trivial⟩ (fun _ => ?_)
      rw [nI_1']
      exact ih f (s + 1) h (by omega) hq ge w0 (fun k hk' => by rw [cnt_f (show qk (mi W m hd) k s = false by unfold qk; rw [c]; rfl)]; exact w k hk')
    | true =>
      refine xq_n 48 [0, 1, 2, 3] [(0, .ref 14), (1, .ref 15), (2, .int (bl hd)), (3, .int (nI s))] [.int (nI s), .ref 18] h [false] 60 hq rfl ⟨rfl, trivial⟩ (fun _ => ?_)
      refine xq_run hq rfl rfl (bit_q (by omega) hq) ?_
      rintro v h1 ⟨rfl, rfl⟩
      have sl := sz_le (s := s)
      refine xq_n 26 [0, 1, 2, 3] [(0, .ref 14), (1, .ref 15), (2, .int (bl hd)), (3, .int (nI s + Int32.ofInt 1))] [] (xh_ui h 18 (nI (sz s) + Int32.ofInt 1).toNatClampNeg (xg 0 h.2.1 18 (nI (sz s) + Int32.ofInt 1).toNatClampNeg + Int32.ofInt 1)) [] 60 hq rfl trivial (fun _ => ?_)
      rw [show nI s + Int32.ofInt 1 = nI (s + 1) from nI_1', show (nI (sz s) + Int32.ofInt 1).toNatClampNeg = sz s + 1 by rw [nI_1']; exact nI_clamp (by omega), w (sz s) sl, show nI (cnt (qk (mi W m hd) (sz s)) s) + Int32.ofInt 1 = nI (cnt (qk (mi W m hd) (sz s)) s + 1) from nI_1']
      refine ih f (s + 1) _ (by omega) (a_rq_ui hq) (fx_ui ge rfl) ((gx_k (by omega)).trans w0) (fun k hk' => ?_)
      by_cases z : k = sz s
      · rw [z, gx_s, cnt_t (qk_s c)]
      · rw [gx_k (by omega), cnt_f (show qk (mi W m hd) k s = false by unfold qk; rw [decide_eq_false (fun e => z e.symm), Bool.and_false])]
        exact w k hk'
set_option maxRecDepth 100000 in
set_option maxHeartbeats 4000000 in
theorem lz15_3 {P : Nat → Bool} {N : Nat} {hd : Bool} {hb : xh_H} {Q : Option Value → xh_H → Prop} (K : ∀ (f : Nat) (h : xh_H), a_rq a_tb h → fx SL15 fN hb h → (∀ k, k < 14 → xg 0 h.2.1 18 k = nI (cum P N k)) → xq f xi_X2_list xmi_X2_list 103 [(0, .ref 14), (1, .ref 15), (2, .int (bl hd)), (3, .int (nI 0)), (4, .int (nI 0))] [] h Q) : ∀ (n f i : Nat) (h : xh_H), i + n = 13 → a_rq a_tb h → fx SL15 fN hb h → (∀ k, k < i + 1 → xg 0 h.2.1 18 k = nI (cum P N k)) → (∀ k, i ≤ k → k ≤ 12 → xg 0 h.2.1 18 (k + 1) = nI (cnt (qk P k) N)) → xq f xi_X2_list xmi_X2_list 66 [(0, .ref 14), (1, .ref 15), (2, .int (bl hd)), (3, .int (nI (i + 1)))] [] h Q := by
  intro n
  induction n with
  | zero =>
    intro f i h hn hq ge w0 w
    have e : i = 13 := by omega
    subst e
    refine xq_n 103 [0, 1, 2, 3, 4] [(0, .ref 14), (1, .ref 15), (2, .int (bl hd)), (3, .int (Int32.ofInt 0)), (4, .int (Int32.ofInt 0))] [] h [true] 60 hq rfl ⟨rfl, trivial⟩ (fun _ => ?_)
    exact K f h hq ge w0
  | succ n ih =>
    intro f i h hn hq ge w0 w
    refine xq_n 66 [0, 1, 2, 3] [(0, .ref 14), (1, .ref 15), (2, .int (bl hd)), (3, .int (nI (i + 1) + Int32.ofInt 1))] [] (xh_ui h 18 (nI (i + 1)).toNatClampNeg (xg 0 h.2.1 18 (nI (i + 1)).toNatClampNeg + xg 0 h.2.1 18 (nI (i + 1) - Int32.ofInt 1).toNatClampNeg)) [false] 60 hq rfl ⟨nge_f (b := 14) (by omega) (by decide) (by omega), trivial⟩ (fun _ => ?_)
    rw [nI_1', show (nI (i + 1)).toNatClampNeg = i + 1 from nI_clamp (by omega), show (nI (i + 1) - Int32.ofInt 1).toNatClampNeg = i by rw [nI_sub1]; exact nI_clamp (by omega), w i (Nat.le_refl _) (by omega), w0 i (by omega), nI_add]
    refine ih f (i + 1) _ (by omega) (a_rq_ui hq) (fx_ui ge rfl) (fun k hk' => ?_) (fun k h1 h2 => (gx_k (by omega)).trans (w k (by omega) h2))
    by_cases z : k = i + 1
    · rw [z, gx_s]
      show _ = nI (cum P N i + cnt (qk P i) N)
      rw [Nat.add_comm]
    · exact (gx_k (by omega)).trans (w0 k (by omega))
set_option maxRecDepth 100000 in
set_option maxHeartbeats 4000000 in
theorem lz15_4 {W : Nat → Bool} {m q r : Nat} {hd : Bool} {hb : xh_H} {Q : Option Value → xh_H → Prop} (A : LA W m q r hb) (m12 : m ≤ 12) (K : ∀ (f : Nat) (h : xh_H), a_rq a_tb h → fx SL15 fN hb h → (∀ t, t < 2 ^ m → mi W m hd t = true → rk (mi W m hd) (2 ^ m) t < 924 → xg 0 h.2.1 15 (rk (mi W m hd) (2 ^ m) t) = nI t) → xq f xi_X2_list xmi_X2_list 164 [] [.int 924, .int (nI (cnt (mi W m hd) (2 ^ m)))] h Q) : ∀ (n f s : Nat) (h : xh_H), s + n = 2 ^ m → a_rq a_tb h → fx SL15 fN hb h → (∀ k, k ≤ 12 → xg 0 h.2.1 18 k = nI (cum (mi W m hd) (2 ^ m) k + cnt (qk (mi W m hd) k) s)) → (∀ t, t < s → mi W m hd t = true → rk (mi W m hd) (2 ^ m) t < 924 → xg 0 h.2.1 15 (rk (mi W m hd) (2 ^ m) t) = nI t) → xq f xi_X2_list xmi_X2_list 103 [(0, .ref 14), (1, .ref 15), (2, .int (bl hd)), (3, .int (nI (cnt (mi W m hd) s))), (4, .int (nI s))] [] h Q := by
  have p12 : 2 ^ m ≤ 4096 := show 2 ^ m ≤ 2 ^ 12 from Nat.pow_le_pow_right (by decide) m12
  intro n
  induction n with
  | zero =>
    intro f s h hn hq ge w0 w
    have e : s = 2 ^ m := by omega
    subst e
    refine xq_n 164 [] [] [.int 924, .int (nI (cnt (mi W m hd) (2 ^ m)))] h [true] 60 hq rfl ⟨gtt (LA_f A ge rfl rfl) m12, trivial⟩ (fun _ => ?_)
    exact K f h hq ge w
  | succ n ih =>
    intro f s h hn hq ge w0 w
    have hs : s < 2 ^ m := by omega
    have A' := LA_f A ge rfl rfl
    refine xq_n 116 [0, 1, 2, 3, 4] [(0, .ref 14), (1, .ref 15), (2, .int (bl hd)), (3, .int (nI (cnt (mi W m hd) s))), (4, .int (nI s))] [.int (bl hd), .int (nI s), .ref 14] h [false] 60 hq rfl ⟨gtf A' m12 hs, trivial⟩ (fun _ => ?_)
    refine xq_run hq rfl rfl (ism_q A' m12 hs hq) ?_
    rintro v h1 ⟨rfl, rfl⟩
    have r := ih f (s + 1)
    cases c : mi W m hd s with
    | false =>
      rw [cnt_f c] at r
      refine xq_n 103 [0, 1, 2, 3, 4] [(0, .ref 14), (1, .ref 15), (2, .int (bl hd)), (3, .int (nI (cnt (mi W m hd) s))), (4, .int (nI s + Int32.ofInt 1))] [] h [true] 60 hq rfl ⟨rfl, trivial⟩ (fun _ => ?_)
      rw [nI_1']
      refine r h (by omega) hq ge (fun k hk' => by rw [cnt_f (show qk (mi W m hd) k s = false by unfold qk; rw [c]; rfl)]; exact w0 k hk') (fun t ht hp hr => w t ?_ hp hr)
      by_cases z : t = s
      · rw [z, c] at hp; cases hp
      · omega
    | true =>
      rw [cnt_t c] at r
      refine xq_n 128 [0, 1, 2, 3, 4] [(0, .ref 14), (1, .ref 15), (2, .int (bl hd)), (3, .int (nI (cnt (mi W m hd) s))), (4, .int (nI s))] [.int (nI s), .ref 18] h [false] 60 hq rfl ⟨rfl, trivial⟩ (fun _ => ?_)
      refine xq_run hq rfl rfl (bit_q (by omega) hq) ?_
      rintro v h1 ⟨rfl, rfl⟩
      have sl := sz_le (s := s)
      have e18 : xg 0 h.2.1 18 (nI (sz s)).toNatClampNeg = nI (rk (mi W m hd) (2 ^ m) s) := by rw [nI_clamp (by omega)]; exact w0 (sz s) sl
      have rl : rk (mi W m hd) (2 ^ m) s < 2 ^ 31 := by
        have b := cum_b (P := mi W m hd) (N := 2 ^ m) (sz s)
        have b2 := cnt_le (P := qk (mi W m hd) (sz s)) s
        have b3 : 2 ^ m * sz s ≤ 4096 * 12 := Nat.mul_le_mul p12 sl
        unfold rk
        omega
      have w1 : ∀ k, k ≤ 12 → xg 0 (xh_ui h 18 (sz s) (nI (rk (mi W m hd) (2 ^ m) s + 1))).2.1 18 k = nI (cum (mi W m hd) (2 ^ m) k + cnt (qk (mi W m hd) k) (s + 1)) := fun k hk' => by
        by_cases z : k = sz s
        · rw [z, gx_s, cnt_t (qk_s c)]; rfl
        · rw [gx_k (by omega), cnt_f (show qk (mi W m hd) k s = false by unfold qk; rw [decide_eq_false (fun e => z e.symm), Bool.and_false])]
          exact w0 k hk'
      cases cg : xe_c .ge (nI (rk (mi W m hd) (2 ^ m) s)) 924 with
      | true =>
        have z2 : 924 ≤ rk (mi W m hd) (2 ^ m) s := nq_get (b := 924) rl (by decide) cg
        refine xq_n 103 [0, 1, 2, 3, 4] [(0, .ref 14), (1, .ref 15), (2, .int (bl hd)), (3, .int (nI (cnt (mi W m hd) s) + Int32.ofInt 1)), (4, .int (nI s + Int32.ofInt 1))] [] (xh_ui h 18 (nI (sz s)).toNatClampNeg (xg 0 h.2.1 18 (nI (sz s)).toNatClampNeg + Int32.ofInt 1)) [true] 80 hq rfl ⟨(show xe_c .ge (xg 0 h.2.1 18 (nI (sz s)).toNatClampNeg) 924 = true by rw [e18]; exact cg), trivial⟩ (fun _ => ?_)
        rw [e18, nI_1', nI_1', nI_1', show (nI (sz s)).toNatClampNeg = sz s from nI_clamp (by omega)]
        refine r _ (by omega) (a_rq_ui hq) (fx_ui ge rfl) w1 (fun t ht hp hr => (gx_o (by decide)).trans (w t ?_ hp hr))
        by_cases z : t = s
        · rw [z] at hr; omega
        · omega
      | false =>
        have z2 : rk (mi W m hd) (2 ^ m) s < 924 := nq_gef (b := 924) rl (by decide) cg
        refine xq_n 103 [0, 1, 2, 3, 4] [(0, .ref 14), (1, .ref 15), (2, .int (bl hd)), (3, .int (nI (cnt (mi W m hd) s) + Int32.ofInt 1)), (4, .int (nI s + Int32.ofInt 1))] [] (xh_ui (xh_ui h 18 (nI (sz s)).toNatClampNeg (xg 0 h.2.1 18 (nI (sz s)).toNatClampNeg + Int32.ofInt 1)) 15 (xg 0 h.2.1 18 (nI (sz s)).toNatClampNeg).toNatClampNeg (nI s)) [false] 80 hq rfl ⟨(show xe_c .ge (xg 0 h.2.1 18 (nI (sz s)).toNatClampNeg) 924 = false by rw [e18]; exact cg), trivial⟩ (fun _ => ?_)
        rw [e18, nI_1', nI_1', nI_1', show (nI (sz s)).toNatClampNeg = sz s from nI_clamp (by omega), show (nI (rk (mi W m hd) (2 ^ m) s)).toNatClampNeg = rk (mi W m hd) (2 ^ m) s from nI_clamp (by omega)]
        refine r _ (by omega) (a_rq_ui (a_rq_ui hq)) (fx_ui (fx_ui ge rfl) rfl) (fun k hk' => (gx_o (by decide)).trans (w1 k hk')) (fun t ht hp hr => ?_)
        by_cases z : t = s
        · rw [z, gx_s]
        · have ne : rk (mi W m hd) (2 ^ m) t ≠ rk (mi W m hd) (2 ^ m) s := fun e => z (rk_ij hp c (by omega) hs e)
          exact (gx_k ne).trans ((gx_o (by decide)).trans (w t (by omega) hp hr))
set_option maxRecDepth 100000 in
set_option maxHeartbeats 4000000 in
/-- Powers.list -/
theorem lz15_q {f : Nat} {W : Nat → Bool} {m q r : Nat} {hd : Bool} {hb : xh_H} (A : LA W m q r hb) (m12 : m ≤ 12) (hq : a_rq a_tb hb) : xq f xi_X2_list xmi_X2_list 0 [(0, .ref 14), (1, .ref 15), (2, .int (bl hd))] [] hb (fun v h' => v = some (.int (mn (cnt (mi W m hd) (2 ^ m)))) ∧ fx SL15 fN hb h' ∧ ∀ t, t < 2 ^ m → mi W m hd t = true → rk (mi W m hd) (2 ^ m) t < 924 → xg 0 h'.2.1 15 (rk (mi W m hd) (2 ^ m) t) = nI t) := by
  refine xq_n 2 [0, 1, 2, 3] [(0, .ref 14), (1, .ref 15), (2, .int (bl hd)), (3, .int (Int32.ofInt 0))] [] hb [] 60 hq rfl trivial (fun _ => ?_)
  refine lz15_1 (hb := hb) (fun f h hq ge w => ?_) 14 f 0 hb (by omega) hq fx_0 (fun j hj => absurd hj (Nat.not_lt_zero j))
  refine lz15_2 A m12 (fun f h hq ge w0 w => ?_) (2 ^ m) f 0 h (by omega) hq ge (w 0 (by decide)) (fun k hk' => w (k + 1) (by omega))
  refine lz15_3 (P := mi W m hd) (N := 2 ^ m) (fun f h hq ge w => ?_) 13 f 0 h (by omega) hq ge (fun k hk' => by rw [show k = 0 by omega]; exact w0) (fun k _ h2 => w k h2)
  refine lz15_4 A m12 (fun f h hq ge w => ?_) (2 ^ m) f 0 h (by omega) hq ge (fun k hk' => w k (by omega)) (fun t ht => absurd ht (Nat.not_lt_zero t))
  refine xq_sd (pc1 := 167) (st1 := [.int (mn (cnt (mi W m hd) (2 ^ m)))]) (h1 := h) rfl rfl (fun _ _ => rfl) (fun _ => rfl) ?_
  exact xq_ret rfl rfl rfl ⟨rfl, ge, w⟩
def SL16 (c _k : Nat) : Bool := Nat.beq c 18 || Nat.beq c 16
set_option maxRecDepth 100000 in
set_option maxHeartbeats 4000000 in
theorem lz16_1 {hd : Bool} {hb : xh_H} {Q : Option Value → xh_H → Prop} (K : ∀ (f : Nat) (h : xh_H), a_rq a_tb h → fx SL16 fN hb h → (∀ j, j < 14 → xg 0 h.2.1 18 j = nI 0) → xq f xi_X2_list xmi_X2_list 26 [(0, .ref 14), (1, .ref 16), (2, .int (bl hd)), (3, .int (nI 0))] [] h Q) : ∀ (n f i : Nat) (h : xh_H), i + n = 14 → a_rq a_tb h → fx SL16 fN hb h → (∀ j, j < i → xg 0 h.2.1 18 j = nI 0) → xq f xi_X2_list xmi_X2_list 2 [(0, .ref 14), (1, .ref 16), (2, .int (bl hd)), (3, .int (nI i))] [] h Q := by
  intro n
  induction n with
  | zero =>
    intro f i h hn hq ge w
    have e : i = 14 := by omega
    subst e
    refine xq_n 26 [0, 1, 2, 3] [(0, .ref 14), (1, .ref 16), (2, .int (bl hd)), (3, .int (Int32.ofInt 0))] [] h [true] 60 hq rfl ⟨rfl, trivial⟩ (fun _ => ?_)
    exact K f h hq ge w
  | succ n ih =>
    intro f i h hn hq ge w
    refine xq_n 2 [0, 1, 2, 3] [(0, .ref 14), (1, .ref 16), (2, .int (bl hd)), (3, .int (nI i + Int32.ofInt 1))] [] (xh_ui h 18 (nI i).toNatClampNeg (Int32.ofInt 0)) [false] 60 hq rfl ⟨nge_f (b := 14) (by omega) (by decide) (by omega), trivial⟩ (fun _ => ?_)
    rw [nI_1', show (nI i).toNatClampNeg = i from nI_clamp (by omega)]
    refine ih f (i + 1) _ (by omega) (a_rq_ui hq) (fx_ui ge rfl) (fun j hj => ?_)
    by_cases z : j = i
    · rw [z, gx_s]; rfl
    · exact (gx_k (by omega)).trans (w j (by omega))
set_option maxRecDepth 100000 in
set_option maxHeartbeats 4000000 in
theorem lz16_2 {W : Nat → Bool} {m q r : Nat} {hd : Bool} {hb : xh_H} {Q : Option Value → xh_H → Prop} (A : LA W m q r hb) (m12 : m ≤ 12) (K : ∀ (f : Nat) (h : xh_H), a_rq a_tb h → fx SL16 fN hb h → xg 0 h.2.1 18 0 = nI 0 → (∀ k, k ≤ 12 → xg 0 h.2.1 18 (k + 1) = nI (cnt (qk (mi W m hd) k) (2 ^ m))) → xq f xi_X2_list xmi_X2_list 66 [(0, .ref 14), (1, .ref 16), (2, .int (bl hd)), (3, .int (nI 1))] [] h Q) : ∀ (n f s : Nat) (h : xh_H), s + n = 2 ^ m → a_rq a_tb h → fx SL16 fN hb h → xg 0 h.2.1 18 0 = nI 0 → (∀ k, k ≤ 12 → xg 0 h.2.1 18 (k + 1) = nI (cnt (qk (mi W m hd) k) s)) → xq f xi_X2_list xmi_X2_list 26 [(0, .ref 14), (1, .ref 16), (2, .int (bl hd)), (3, .int (nI s))] [] h Q := by
  have p12 : 2 ^ m ≤ 4096 := show 2 ^ m ≤ 2 ^ 12 from Nat.pow_le_pow_right (by decide) m12
  intro n
  induction n with
  | zero =>
    intro f s h hn hq ge w0 w
    have e : s = 2 ^ m := by omega
    subst e
    refine xq_n 66 [0, 1, 2, 3] [(0, .ref 14), (1, .ref 16), (2, .int (bl hd)), (3, .int (Int32.ofInt 1))] [] h [true] 60 hq rfl ⟨gtt (LA_f A ge rfl rfl) m12, trivial⟩ (fun _ => ?_)
    exact K f h hq ge w0 w
  | succ n ih =>
    intro f s h hn hq ge w0 w
    have hs : s < 2 ^ m := by omega
    have A' := LA_f A ge rfl rfl
    refine xq_n 37 [0, 1, 2, 3] [(0, .ref 14), (1, .ref 16), (2, .int (bl hd)), (3, .int (nI s))] [.int (bl hd), .int (nI s), .ref 14] h [false] 60 hq rfl ⟨gtf A' m12 hs, trivial⟩ (fun _ => ?_)
    refine xq_run hq rfl rfl (ism_q A' m12 hs hq) ?_
    rintro v h1 ⟨rfl, rfl⟩
    cases c : mi W m hd s with
    | false =>
      refine xq_n 26 [0, 1, 2, 3] [(0, .ref 14), (1, .ref 16), (2, .int (bl hd)), (3, .int (nI s + Int32.ofInt 1))] [] h [true] 60 hq rfl ⟨rfl, trivial⟩ (fun _ => ?_)
      rw [nI_1']
      exact ih f (s + 1) h (by omega) hq ge w0 (fun k hk' => by rw [cnt_f (show qk (mi W m hd) k s = false by unfold qk; rw [c]; rfl)]; exact w k hk')
    | true =>
      refine xq_n 48 [0, 1, 2, 3] [(0, .ref 14), (1, .ref 16), (2, .int (bl hd)), (3, .int (nI s))] [.int (nI s), .ref 18] h [false] 60 hq rfl ⟨rfl, trivial⟩ (fun _ => ?_)
      refine xq_run hq rfl rfl (bit_q (by omega) hq) ?_
      rintro v h1 ⟨rfl, rfl⟩
      have sl := sz_le (s := s)
      refine xq_n 26 [0, 1, 2, 3] [(0, .ref 14), (1, .ref 16), (2, .int (bl hd)), (3, .int (nI s + Int32.ofInt 1))] [] (xh_ui h 18 (nI (sz s) + Int32.ofInt 1).toNatClampNeg (xg 0 h.2.1 18 (nI (sz s) + Int32.ofInt 1).toNatClampNeg + Int32.ofInt 1)) [] 60 hq rfl trivial (fun _ => ?_)
      rw [show nI s + Int32.ofInt 1 = nI (s + 1) from nI_1', show (nI (sz s) + Int32.ofInt 1).toNatClampNeg = sz s + 1 by rw [nI_1']; exact nI_clamp (by omega), w (sz s) sl, show nI (cnt (qk (mi W m hd) (sz s)) s) + Int32.ofInt 1 = nI (cnt (qk (mi W m hd) (sz s)) s + 1) from nI_1']
      refine ih f (s + 1) _ (by omega) (a_rq_ui hq) (fx_ui ge rfl) ((gx_k (by omega)).trans w0) (fun k hk' => ?_)
      by_cases z : k = sz s
      · rw [z, gx_s, cnt_t (qk_s c)]
      · rw [gx_k (by omega), cnt_f (show qk (mi W m hd) k s = false by unfold qk; rw [decide_eq_false (fun e => z e.symm), Bool.and_false])]
        exact w k hk'
set_option maxRecDepth 100000 in
set_option maxHeartbeats 4000000 in
theorem lz16_3 {P : Nat → Bool} {N : Nat} {hd : Bool} {hb : xh_H} {Q : Option Value → xh_H → Prop} (K : ∀ (f : Nat) (h : xh_H), a_rq a_tb h → fx SL16 fN hb h → (∀ k, k < 14 → xg 0 h.2.1 18 k = nI (cum P N k)) → xq f xi_X2_list xmi_X2_list 103 [(0, .ref 14), (1, .ref 16), (2, .int (bl hd)), (3, .int (nI 0)), (4, .int (nI 0))] [] h Q) : ∀ (n f i : Nat) (h : xh_H), i + n = 13 → a_rq a_tb h → fx SL16 fN hb h → (∀ k, k < i + 1 → xg 0 h.2.1 18 k = nI (cum P N k)) → (∀ k, i ≤ k → k ≤ 12 → xg 0 h.2.1 18 (k + 1) = nI (cnt (qk P k) N)) → xq f xi_X2_list xmi_X2_list 66 [(0, .ref 14), (1, .ref 16), (2, .int (bl hd)), (3, .int (nI (i + 1)))] [] h Q := by
  intro n
  induction n with
  | zero =>
    intro f i h hn hq ge w0 w
    have e : i = 13 := by omega
    subst e
    refine xq_n 103 [0, 1, 2, 3, 4] [(0, .ref 14), (1, .ref 16), (2, .int (bl hd)), (3, .int (Int32.ofInt 0)), (4, .int (Int32.ofInt 0))] [] h [true] 60 hq rfl ⟨rfl, trivial⟩ (fun _ => ?_)
    exact K f h hq ge w0
  | succ n ih =>
    intro f i h hn hq ge w0 w
    refine xq_n 66 [0, 1, 2, 3] [(0, .ref 14), (1, .ref 16), (2, .int (bl hd)), (3, .int (nI (i + 1) + Int32.ofInt 1))] [] (xh_ui h 18 (nI (i + 1)).toNatClampNeg (xg 0 h.2.1 18 (nI (i + 1)).toNatClampNeg + xg 0 h.2.1 18 (nI (i + 1) - Int32.ofInt 1).toNatClampNeg)) [false] 60 hq rfl ⟨nge_f (b := 14) (by omega) (by decide) (by omega), trivial⟩ (fun _ => ?_)
    rw [nI_1', show (nI (i + 1)).toNatClampNeg = i + 1 from nI_clamp (by omega), show (nI (i + 1) - Int32.ofInt 1).toNatClampNeg = i by rw [nI_sub1]; exact nI_clamp (by omega), w i (Nat.le_refl _) (by omega), w0 i (by omega), nI_add]
    refine ih f (i + 1) _ (by omega) (a_rq_ui hq) (fx_ui ge rfl) (fun k hk' => ?_) (fun k h1 h2 => (gx_k (by omega)).trans (w k (by omega) h2))
    by_cases z : k = i + 1
    · rw [z, gx_s]
      show _ = nI (cum P N i + cnt (qk P i) N)
      rw [Nat.add_comm]
    · exact (gx_k (by omega)).trans (w0 k (by omega))
set_option maxRecDepth 100000 in
set_option maxHeartbeats 4000000 in
theorem lz16_4 {W : Nat → Bool} {m q r : Nat} {hd : Bool} {hb : xh_H} {Q : Option Value → xh_H → Prop} (A : LA W m q r hb) (m12 : m ≤ 12) (K : ∀ (f : Nat) (h : xh_H), a_rq a_tb h → fx SL16 fN hb h → (∀ t, t < 2 ^ m → mi W m hd t = true → rk (mi W m hd) (2 ^ m) t < 924 → xg 0 h.2.1 16 (rk (mi W m hd) (2 ^ m) t) = nI t) → xq f xi_X2_list xmi_X2_list 164 [] [.int 924, .int (nI (cnt (mi W m hd) (2 ^ m)))] h Q) : ∀ (n f s : Nat) (h : xh_H), s + n = 2 ^ m → a_rq a_tb h → fx SL16 fN hb h → (∀ k, k ≤ 12 → xg 0 h.2.1 18 k = nI (cum (mi W m hd) (2 ^ m) k + cnt (qk (mi W m hd) k) s)) → (∀ t, t < s → mi W m hd t = true → rk (mi W m hd) (2 ^ m) t < 924 → xg 0 h.2.1 16 (rk (mi W m hd) (2 ^ m) t) = nI t) → xq f xi_X2_list xmi_X2_list 103 [(0, .ref 14), (1, .ref 16), (2, .int (bl hd)), (3, .int (nI (cnt (mi W m hd) s))), (4, .int (nI s))] [] h Q := by
  have p12 : 2 ^ m ≤ 4096 := show 2 ^ m ≤ 2 ^ 12 from Nat.pow_le_pow_right (by decide) m12
  intro n
  induction n with
  | zero =>
    intro f s h hn hq ge w0 w
    have e : s = 2 ^ m := by omega
    subst e
    refine xq_n 164 [] [] [.int 924, .int (nI (cnt (mi W m hd) (2 ^ m)))] h [true] 60 hq rfl ⟨gtt (LA_f A ge rfl rfl) m12, trivial⟩ (fun _ => ?_)
    exact K f h hq ge w
  | succ n ih =>
    intro f s h hn hq ge w0 w
    have hs : s < 2 ^ m := by omega
    have A' := LA_f A ge rfl rfl
    refine xq_n 116 [0, 1, 2, 3, 4] [(0, .ref 14), (1, .ref 16), (2, .int (bl hd)), (3, .int (nI (cnt (mi W m hd) s))), (4, .int (nI s))] [.int (bl hd), .int (nI s), .ref 14] h [false] 60 hq rfl ⟨gtf A' m12 hs, trivial⟩ (fun _ => ?_)
    refine xq_run hq rfl rfl (ism_q A' m12 hs hq) ?_
    rintro v h1 ⟨rfl, rfl⟩
    have r := ih f (s + 1)
    cases c : mi W m hd s with
    | false =>
      rw [cnt_f c] at r
      refine xq_n 103 [0, 1, 2, 3, 4] [(0, .ref 14), (1, .ref 16), (2, .int (bl hd)), (3, .int (nI (cnt (mi W m hd) s))), (4, .int (nI s + Int32.ofInt 1))] [] h [true] 60 hq rfl ⟨rfl, trivial⟩ (fun _ => ?_)
      rw [nI_1']
      refine r h (by omega) hq ge (fun k hk' => by rw [cnt_f (show qk (mi W m hd) k s = false by unfold qk; rw [c]; rfl)]; exact w0 k hk') (fun t ht hp hr => w t ?_ hp hr)
      by_cases z : t = s
      · rw [z, c] at hp; cases hp
      · omega
    | true =>
      rw [cnt_t c] at r
      refine xq_n 128 [0, 1, 2, 3, 4] [(0, .ref 14), (1, .ref 16), (2, .int (bl hd)), (3, .int (nI (cnt (mi W m hd) s))), (4, .int (nI s))] [.int (nI s), .ref 18] h [false] 60 hq rfl ⟨rfl, trivial⟩ (fun _ => ?_)
      refine xq_run hq rfl rfl (bit_q (by omega) hq) ?_
      rintro v h1 ⟨rfl, rfl⟩
      have sl := sz_le (s := s)
      have e18 : xg 0 h.2.1 18 (nI (sz s)).toNatClampNeg = nI (rk (mi W m hd) (2 ^ m) s) := by rw [nI_clamp (by omega)]; exact w0 (sz s) sl
      have rl : rk (mi W m hd) (2 ^ m) s < 2 ^ 31 := by
        have b := cum_b (P := mi W m hd) (N := 2 ^ m) (sz s)
        have b2 := cnt_le (P := qk (mi W m hd) (sz s)) s
        have b3 : 2 ^ m * sz s ≤ 4096 * 12 := Nat.mul_le_mul p12 sl
        unfold rk
        omega
      have w1 : ∀ k, k ≤ 12 → xg 0 (xh_ui h 18 (sz s) (nI (rk (mi W m hd) (2 ^ m) s + 1))).2.1 18 k = nI (cum (mi W m hd) (2 ^ m) k + cnt (qk (mi W m hd) k) (s + 1)) := fun k hk' => by
        by_cases z : k = sz s
        · rw [z, gx_s, cnt_t (qk_s c)]; rfl
        · rw [gx_k (by omega), cnt_f (show qk (mi W m hd) k s = false by unfold qk; rw [decide_eq_false (fun e => z e.symm), Bool.and_false])]
          exact w0 k hk'
      cases cg : xe_c .ge (nI (rk (mi W m hd) (2 ^ m) s)) 924 with
      | true =>
        have z2 : 924 ≤ rk (mi W m hd) (2 ^ m) s := nq_get (b := 924) rl (by decide) cg
        refine xq_n 103 [0, 1, 2, 3, 4] [(0, .ref 14), (1, .ref 16), (2, .int (bl hd)), (3, .int (nI (cnt (mi W m hd) s) + Int32.ofInt 1)), (4, .int (nI s + Int32.ofInt 1))] [] (xh_ui h 18 (nI (sz s)).toNatClampNeg (xg 0 h.2.1 18 (nI (sz s)).toNatClampNeg + Int32.ofInt 1)) [true] 80 hq rfl ⟨(show xe_c .ge (xg 0 h.2.1 18 (nI (sz s)).toNatClampNeg) 924 = true by rw [e18]; exact cg), trivial⟩ (fun _ => ?_)
        rw [e18, nI_1', nI_1', nI_1', show (nI (sz s)).toNatClampNeg = sz s from nI_clamp (by omega)]
        refine r _ (by omega) (a_rq_ui hq) (fx_ui ge rfl) w1 (fun t ht hp hr => (gx_o (by decide)).trans (w t ?_ hp hr))
        by_cases z : t = s
        · rw [z] at hr; omega
        · omega
      | false =>
        have z2 : rk (mi W m hd) (2 ^ m) s < 924 := nq_gef (b := 924) rl (by decide) cg
        refine xq_n 103 [0, 1, 2, 3, 4] [(0, .ref 14), (1, .ref 16), (2, .int (bl hd)), (3, .int (nI (cnt (mi W m hd) s) + Int32.ofInt 1)), (4, .int (nI s + Int32.ofInt 1))] [] (xh_ui (xh_ui h 18 (nI (sz s)).toNatClampNeg (xg 0 h.2.1 18 (nI (sz s)).toNatClampNeg + Int32.ofInt 1)) 16 (xg 0 h.2.1 18 (nI (sz s)).toNatClampNeg).toNatClampNeg (nI s)) [false] 80 hq rfl ⟨(show xe_c .ge (xg 0 h.2.1 18 (nI (sz s)).toNatClampNeg) 924 = false by rw [e18]; exact cg), trivial⟩ (fun _ => ?_)
        rw [e18, nI_1', nI_1', nI_1', show (nI (sz s)).toNatClampNeg = sz s from nI_clamp (by omega), show (nI (rk (mi W m hd) (2 ^ m) s)).toNatClampNeg = rk (mi W m hd) (2 ^ m) s from nI_clamp (by omega)]
        refine r _ (by omega) (a_rq_ui (a_rq_ui hq)) (fx_ui (fx_ui ge rfl) rfl) (fun k hk' => (gx_o (by decide)).trans (w1 k hk')) (fun t ht hp hr => ?_)
        by_cases z : t = s
        · rw [z, gx_s]
        · have ne : rk (mi W m hd) (2 ^ m) t ≠ rk (mi W m hd) (2 ^ m) s := fun e => z (rk_ij hp c (by omega) hs e)
          exact (gx_k ne).trans ((gx_o (by decide)).trans (w t (by omega) hp hr))
set_option maxRecDepth 100000 in
set_option maxHeartbeats 4000000 in
/-- Powers.list -/
theorem lz16_q {f : Nat} {W : Nat → Bool} {m q r : Nat} {hd : Bool} {hb : xh_H} (A : LA W m q r hb) (m12 : m ≤ 12) (hq : a_rq a_tb hb) : xq f xi_X2_list xmi_X2_list 0 [(0, .ref 14), (1, .ref 16), (2, .int (bl hd))] [] hb (fun v h' => v = some (.int (mn (cnt (mi W m hd) (2 ^ m)))) ∧ fx SL16 fN hb h' ∧ ∀ t, t < 2 ^ m → mi W m hd t = true → rk (mi W m hd) (2 ^ m) t < 924 → xg 0 h'.2.1 16 (rk (mi W m hd) (2 ^ m) t) = nI t) := by
  refine xq_n 2 [0, 1, 2, 3] [(0, .ref 14), (1, .ref 16), (2, .int (bl hd)), (3, .int (Int32.ofInt 0))] [] hb [] 60 hq rfl trivial (fun _ => ?_)
  refine lz16_1 (hb := hb) (fun f h hq ge w => ?_) 14 f 0 hb (by omega) hq fx_0 (fun j hj => absurd hj (Nat.not_lt_zero j))
  refine lz16_2 A m12 (fun f h hq ge w0 w => ?_) (2 ^ m) f 0 h (by omega) hq ge (w 0 (by decide)) (fun k hk' => w (k + 1) (by omega))
  refine lz16_3 (P := mi W m hd) (N := 2 ^ m) (fun f h hq ge w => ?_) 13 f 0 h (by omega) hq ge (fun k hk' => by rw [show k = 0 by omega]; exact w0) (fun k _ h2 => w k h2)
  refine lz16_4 A m12 (fun f h hq ge w => ?_) (2 ^ m) f 0 h (by omega) hq ge (fun k hk' => w k (by omega)) (fun t ht => absurd ht (Nat.not_lt_zero t))
  refine xq_sd (pc1 := 167) (st1 := [.int (mn (cnt (mi W m hd) (2 ^ m)))]) (h1 := h) rfl rfl (fun _ _ => rfl) (fun _ => rfl) ?_
  exact xq_ret rfl rfl rfl ⟨rfl, ge, w⟩
end XPL
