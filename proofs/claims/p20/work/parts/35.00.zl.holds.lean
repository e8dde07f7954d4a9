section XHO
variable {mid nL d pc c ci k t len rK ri idx b : Nat} {mi : xm_M} {lv : List (Nat × Value)} {st q : List Value} {h : xh_H} {Q : Option Value → xh_H → Prop}
def ty_rf (t : FieldType) : Bool := match t with
  | .object _ => true
  | .array _ => true
  | _ => false
/-- a reference is read -/
theorem xe_gr (hs : h.1[c]? = some (0, ci)) (hty : ty_rf (xh_ty ci k) = true) (hg : xg none h.2.2.2 c k = some t) : xe_2 none nL (.getfield idx, len, ci, k, rK, ri) d pc lv (.ref c :: q) h 0 0 = some (pc + 3, lv, .ref t :: q, h, 0, 0) := by
  have e : xh_get h c (xh_ty ci k) k = .ref t := by
    revert hty
    cases xh_ty ci k <;> intro hty <;> first
      | (cases hty; done)
      | (show va_rf (xg none h.2.2.2 c k) = _; rw [hg]; rfl)
  have e1 : xe_1 nL (.getfield idx, len, ci, k, rK, ri) pc lv (.ref c :: q) h 0 0 = some (pc + 3, lv, .ref t :: q, h, 0, 0) := by
    unfold xe_1 xp_r
    try dsimp only
    rw [hs]
    show (cond (Nat.beq ci ci) _ _) = _
    rw [Nat.beq_refl, e]
    rfl
  unfold xe_2
  rw [e1]
/-- a reference is written -/
theorem xe_pr (hs : h.1[c]? = some (0, ci)) (hty : ty_rf (xh_ty ci k) = true) : xe_2 none nL (.putfield idx, len, ci, k, rK, ri) d pc lv (.ref t :: .ref c :: q) h 0 0 = some (pc + 3, lv, q, xh_ur h c k (some t), 0, 0) := by
  have e : xe_put h c (xh_ty ci k) k (.ref t) = some (xh_ur h c k (some t)) := by
    revert hty
    cases xh_ty ci k <;> intro hty <;> first
      | (cases hty; done)
      | rfl
  have e1 : xe_1 nL (.putfield idx, len, ci, k, rK, ri) pc lv (.ref t :: .ref c :: q) h 0 0 = some (pc + 3, lv, q, xh_ur h c k (some t), 0, 0) := by
    unfold xe_1 xp_vr
    try dsimp only
    rw [hs]
    show (cond (Nat.beq ci ci) _ _) = _
    rw [Nat.beq_refl, e]
    rfl
  unfold xe_2
  rw [e1]
/-- a long is read -/
theorem xe_la {i : Int32} {n ra rb : Nat} (hs : h.1[c]? = some (4, n)) (hi : xe_in i n = true) : xe_2 none nL (.laload, len, ra, rb, rK, ri) d pc lv (.int i :: .ref c :: q) h 0 0 = some (pc + 1, lv, .long (xg 0 h.2.2.1 c i.toNatClampNeg) :: q, h, 0, 0) := by
  have e1 : xe_1 nL (.laload, len, ra, rb, rK, ri) pc lv (.int i :: .ref c :: q) h 0 0 = some (pc + 1, lv, .long (xg 0 h.2.2.1 c i.toNatClampNeg) :: q, h, 0, 0) := by
    unfold xe_1 xp_ir
    try dsimp only
    rw [hs]
    show (cond (xe_in i n) _ _) = _
    rw [hi]
    rfl
  unfold xe_2
  rw [e1]
/-- a call's arguments, by the receiver's class -/
def xa_cs (r : xr_R) (st : List Value) (ci : Nat) : Option (xm_M × List Value × List Value) := match xM r.2.2.1 with
  | none => none
  | some mi => (match r.1 with
    | .invokevirtual _ => (match st.drop mi.2.2.2.2.2.2.1 with
      | .ref b :: q => cond (Nat.beq r.2.2.2.1 0 && (Nat.beq ci mi.2.2.2.2.2.2.2 && (Nat.beq mi.2.2.2.2.2.1 0 && (Nat.beq (st.take mi.2.2.2.2.2.2.1).length mi.2.2.2.2.2.2.1 && (Nat.ble (xm_cat q) 8 && Nat.ble (xm_cat (.ref b :: (st.take mi.2.2.2.2.2.2.1).reverse)) mi.2.2.2.1))))) (some (mi, .ref b :: (st.take mi.2.2.2.2.2.2.1).reverse, q)) none
      | _ => none)
    | _ => none)
theorem xa_cs_ok {r : xr_R} {mj : xm_M} {As : List Value} (hs : h.1[b]? = some (0, ci)) (he : xa_cs r st ci = some (mj, .ref b :: As, q)) : xe_cl xM r st h = some (mj, .ref b :: As, q) ∧ xe_2 none nL r (d + 1) pc lv st h 0 0 = none ∧ xe_isr r.1 = false := by
  unfold xa_cs at he
  cases hM : xM r.2.2.1 with
  | none => rw [hM] at he; cases he
  | some mi =>
    rw [hM] at he
    dsimp only at he
    obtain ⟨i, len, ra, rb, rK, ri⟩ := r
    dsimp only at he hM
    split at he
    · rename_i idx
      split at he
      · rename_i b2 q2 hdr
        obtain ⟨c0, ce⟩ := xw_c he
        cases ce
        obtain ⟨c1, c2⟩ := xw_bb c0
        have hb := xw_beq c1
        subst hb
        refine ⟨?_, rfl, rfl⟩
        unfold xe_cl
        try dsimp only
        rw [hM]
        try dsimp only
        rw [hdr]
        try dsimp only
        rw [hs]
        show (cond (Nat.beq ci mj.2.2.2.2.2.2.2 && (Nat.beq mj.2.2.2.2.2.1 0 && (Nat.beq (st.take mj.2.2.2.2.2.2.1).length mj.2.2.2.2.2.2.1 && (Nat.ble (xm_cat q) 8 && Nat.ble (xm_cat (.ref b :: (st.take mj.2.2.2.2.2.2.1).reverse)) mj.2.2.2.1)))) (some (mj, .ref b :: (st.take mj.2.2.2.2.2.2.1).reverse, q)) none) = _
        rw [c2]
        rfl
      · cases he
    · cases he
theorem xp_runs {r : xr_R} {mj : xm_M} {As : List Value} {Q1 : Option Value → xh_H → Prop} (hs : h.1[b]? = some (0, ci)) (hr : xC mid pc = some r) (he : xa_cs r st ci = some (mj, .ref b :: As, q)) (hm : xt_P d r.2.2.1 mj 0 (lv_args 0 (.ref b :: As)) [] h Q1)
    (k : ∀ v h', Q1 v h' → xt_P (d + 1) mid mi (pc + 3) lv (v.toList ++ q) h' Q) : xt_P (d + 1) mid mi pc lv st h Q := by
  obtain ⟨e1, e2, e3⟩ := xa_cs_ok (d := d) (pc := pc) (lv := lv) (nL := mi.2.2.2.1) hs he
  obtain ⟨v, h', r1, p1⟩ := hm
  obtain ⟨v2, h2, r2, q2⟩ := k v h' p1
  exact ⟨v2, h2, xR_call (v := v) (h' := h') (mc := 0) (ms := 0) hr e3 e2 e1 r1 r2, q2⟩
/-- a statute and its bits, by their cells -/
theorem law_sh {q : Nat} (hi : a_inw a_tb h) (hq : a_r h.1.length 11 q) : h.1[q]? = some (0, 7) ∧ ∃ r, xg none h.2.2.2 q 1 = some r ∧ h.1[r]? = some (4, 64) := by
  obtain ⟨s, es⟩ : ∃ s, h.1[q]? = some s := ⟨_, List.getElem?_eq_getElem hq.1⟩
  obtain ⟨g1, g2⟩ := hi q s es
  rw [hq.2] at g1 g2
  have e : s = (0, 7) := (Option.some.inj g1).symm
  subst e
  obtain ⟨r, r1, r2⟩ := g2 1 (by decide)
  refine ⟨es, r, r1, ?_⟩
  obtain ⟨s, es⟩ : ∃ s, h.1[r]? = some s := ⟨_, List.getElem?_eq_getElem r2.1⟩
  obtain ⟨g1, -⟩ := hi r s es
  have r3 : a_tg r = 12 := r2.2
  rw [r3] at g1
  have e : s = (4, 64) := (Option.some.inj g1).symm
  rw [es, e]
/-- whether a set carries by the bits in cell r -/
def hv (h : xh_H) (r s : Nat) : Bool := !(decide (lg_cmp (((xg 0 h.2.2.1 r (s / 64)).toUInt64 >>> ((nI (s % 64)).toInt64.toUInt64 &&& Int64.toUInt64 63)).toInt64 &&& 1) 0 = 0))
set_option maxRecDepth 100000 in
set_option maxHeartbeats 4000000 in
theorem ho_run {d q r s : Nat} {h : xh_H} (hrq : a_rq a_tb h) (hs : h.1[q]? = some (0, 7)) (hg : xg none h.2.2.2 q 1 = some r) (hr : h.1[r]? = some (4, 64)) (s12 : s < 4096) : xt_P d xi_X7_holds xmi_X7_holds 0 [(0, .ref q), (1, .int (nI s))] [] h (fun v h' => h = h' ∧ v = some (.int (cond (hv h r s) 1 0))) := by
  have e6 : nI s >>> ((6 : Int32) &&& 31) = nI (s / 64) := nI_shr (a := s) (k := 6) (by omega) (by decide)
  have l6 : s / 64 < 64 := by omega
  have i6 := nI_toInt (n := s / 64) (by omega)
  have z0 : (0 : Int32).toInt = 0 := rfl
  have a63 : nI s &&& (63 : Int32) = nI (s % 64) := by
    rw [show (63 : Int32) = nI 63 from rfl, nI_and, show 63 = 2 ^ 6 - 1 from rfl, Nat.and_two_pow_sub_one_eq_mod]
  refine xa_tn 16 [1, 2] [(1, .int (nI s)), (2, .int ((nI s) >>> (6 &&& 31)))] [.ref q] h [false, false] 12 hrq rfl ⟨(show xe_c .lt ((nI s) >>> (6 &&& 31)) 0 = false by rw [e6]; exact xlt_f (by omega)), (show xe_c .ge ((nI s) >>> (6 &&& 31)) 64 = false by rw [e6]; exact nge_f (b := 64) (by omega) (by omega) l6), trivial⟩ (fun _ => ?_)
  rw [e6]
  refine xp_step rfl rfl (xe_gr hs rfl hg) ?_
  refine xa_tn 20 [1, 2] [(1, .int (nI s)), (2, .int (nI (s / 64)))] [.int (nI (s / 64)), .ref r] h [] 3 hrq rfl trivial (fun _ => ?_)
  refine xp_step rfl rfl (xe_la hr (xin_n l6 (by omega))) ?_
  rw [nI_clamp (by omega)]
  refine xa_tn 30 [] [] [.int (lg_cmp ((((xg 0 h.2.2.1 r (s / 64)).toUInt64 >>> (((nI s) &&& 63).toInt64.toUInt64 &&& Int64.toUInt64 63)).toInt64) &&& 1) 0)] h [] 10 hrq rfl trivial (fun _ => ?_)
  rw [a63]
  cases hc : decide (lg_cmp (((xg 0 h.2.2.1 r (s / 64)).toUInt64 >>> ((nI (s % 64)).toInt64.toUInt64 &&& Int64.toUInt64 63)).toInt64 &&& 1) 0 = 0) with
  | true =>
    refine xa_tn 38 [] [] [.int (Int32.ofInt 0)] h [true] 4 hrq rfl ⟨hc, trivial⟩ (fun _ => ?_)
    refine xp_ret rfl rfl rfl ⟨rfl, ?_⟩
    unfold hv
    rw [hc]
    rfl
  | false =>
    refine xa_tn 38 [] [] [.int (Int32.ofInt 1)] h [false] 5 hrq rfl ⟨hc, trivial⟩ (fun _ => ?_)
    refine xp_ret rfl rfl rfl ⟨rfl, ?_⟩
    unfold hv
    rw [hc]
    rfl
/-- of the sets below n without both: what carries with b carries with a -/
def al (h : xh_H) (r n a b : Nat) : Prop := ∀ s, s < n → s.testBit a = false → s.testBit b = false → hv h r (s ||| 2 ^ b) = true → hv h r (s ||| 2 ^ a) = true
theorem al_s0 {r n a b : Nat} (hg : al h r n a b) (hs : n.testBit a = true ∨ n.testBit b = true) : al h r (n + 1) a b := by
  intro s h1 h2 h3 h4
  by_cases e : s = n
  · subst e
    rcases hs with z | z
    · rw [h2] at z; cases z
    · rw [h3] at z; cases z
  · exact hg s (by omega) h2 h3 h4
theorem al_s1 {r n a b : Nat} (hg : al h r n a b) (hs : hv h r (n ||| 2 ^ b) = true → hv h r (n ||| 2 ^ a) = true) : al h r (n + 1) a b := by
  intro s h1 h2 h3 h4
  by_cases e : s = n
  · subst e
    exact hs h4
  · exact hg s (by omega) h2 h3 h4
theorem tb_p {a i : Nat} : (2 ^ a).testBit i = decide (a = i) := Nat.testBit_two_pow
theorem and_bits {s a b : Nat} : s &&& (2 ^ a ||| 2 ^ b) = 0 ↔ s.testBit a = false ∧ s.testBit b = false := by
  constructor
  · intro h
    constructor
    · have := congrArg (fun x => Nat.testBit x a) h
      simpa [Nat.testBit_and, Nat.testBit_or, tb_p] using this
    · have := congrArg (fun x => Nat.testBit x b) h
      simpa [Nat.testBit_and, Nat.testBit_or, tb_p] using this
  · rintro ⟨h1, h2⟩
    apply Nat.eq_of_testBit_eq
    intro i
    rw [Nat.testBit_and, Nat.testBit_or, tb_p, tb_p, Nat.zero_testBit]
    by_cases e1 : a = i
    · subst e1
      rw [h1]
      rfl
    · by_cases e2 : b = i
      · subst e2
        rw [h2]
        rfl
      · rw [decide_eq_false e1, decide_eq_false e2, Bool.or_false, Bool.and_false]
/-- who is at least as strong as whom: a preorder -/
theorem al_tr {r m a b c : Nat} (ha : a < m) (hb : b < m) (hc : c < m) (h1 : al h r (2 ^ m) a b) (h2 : al h r (2 ^ m) b c) : al h r (2 ^ m) a c := by
  intro s hs sa sc hsc
  by_cases ab : a = b
  · subst ab
    exact h2 s hs sa sc hsc
  · by_cases bc : b = c
    · subst bc
      exact h1 s hs sa sc hsc
    · by_cases ac : a = c
      · subst ac
        exact hsc
      · have pa : 2 ^ a < 2 ^ m := Nat.pow_lt_pow_right (by decide) ha
        have pb : 2 ^ b < 2 ^ m := Nat.pow_lt_pow_right (by decide) hb
        have pc : 2 ^ c < 2 ^ m := Nat.pow_lt_pow_right (by decide) hc
        cases sb : s.testBit b with
        | false => exact h1 s hs sa sb (h2 s hs sb sc hsc)
        | true =>
          have et : s = (s ^^^ 2 ^ b) ||| 2 ^ b := by
            apply Nat.eq_of_testBit_eq
            intro i
            rw [Nat.testBit_or, Nat.testBit_xor, tb_p]
            by_cases e : b = i
            · subst e
              rw [sb]
              simp
            · simp [e]
          have tl : s ^^^ 2 ^ b < 2 ^ m := Nat.xor_lt_two_pow hs pb
          have ta : (s ^^^ 2 ^ b).testBit a = false := by
            rw [Nat.testBit_xor, tb_p, sa, decide_eq_false (fun z => ab z.symm)]
            rfl
          have tbb : (s ^^^ 2 ^ b).testBit b = false := by
            rw [Nat.testBit_xor, tb_p, sb, decide_eq_true rfl]
            rfl
          have tc : (s ^^^ 2 ^ b).testBit c = false := by
            rw [Nat.testBit_xor, tb_p, sc, decide_eq_false bc]
            rfl
          generalize s ^^^ 2 ^ b = t at et tl ta tbb tc
          subst et
          have u1 : (t ||| 2 ^ c).testBit a = false := by
            rw [Nat.testBit_or, tb_p, ta, decide_eq_false (fun z => ac z.symm)]
            rfl
          have u2 : (t ||| 2 ^ c).testBit b = false := by
            rw [Nat.testBit_or, tb_p, tbb, decide_eq_false (fun z => bc z.symm)]
            rfl
          have w1 : (t ||| 2 ^ a).testBit b = false := by
            rw [Nat.testBit_or, tb_p, tbb, decide_eq_false ab]
            rfl
          have w2 : (t ||| 2 ^ a).testBit c = false := by
            rw [Nat.testBit_or, tb_p, tc, decide_eq_false ac]
            rfl
          have g1 := h1 (t ||| 2 ^ c) (Nat.or_lt_two_pow tl pc) u1 u2 (by
            rw [Nat.or_assoc, Nat.or_comm (2 ^ c), ← Nat.or_assoc]
            exact hsc)
          have g2 := h2 (t ||| 2 ^ a) (Nat.or_lt_two_pow tl pa) w1 w2 (by
            rw [Nat.or_assoc, Nat.or_comm (2 ^ a), ← Nat.or_assoc]
            exact g1)
          rw [Nat.or_assoc, Nat.or_comm (2 ^ b), ← Nat.or_assoc]
          exact g2
end XHO
