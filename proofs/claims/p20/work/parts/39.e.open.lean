section XOP
theorem i4096 {tp s : Nat} : (4096 : Int32) * nI tp + nI s = nI (4096 * tp + s) := by rw [show (4096 : Int32) = nI 4096 from rfl, ← nI_mul2, nI_add]
/-- what opening a rule or a list leaves -/
def op_Q (h : xh_H) (sz : Nat) (B : Int) (v : Option Value) (h' : xh_H) : Prop := v = none ∧ hk bg_md h h' ∧ rI h' sz B ∧ xg 0 h'.2.1 39 29 = 1 ∧ (2 ≤ kd h → fr h < fr h')
set_option maxRecDepth 100000 in
set_option maxHeartbeats 8000000 in
theorem opr_run {d sz tp : Nat} {B : Int} {ty : Int32} {h : xh_H} (hn : 72 ≤ h.1.length) (g : pi h sz) (htp : xg 0 h.2.1 39 28 = nI tp) (t12 : tp ≤ 12) (hlv : ∀ t, t < tp → lvo h t B) (hty : 0 ≤ ty.toInt ∧ ty.toInt ≤ 1) (h47 : (tp = 0 ∧ ty = 0) ∨ (1 ≤ tp ∧ xg 0 h.2.1 47 0 = 0)) : xt_P (d + 2) xi_X10_openRule xmi_X10_openRule 0 [(0, .ref 39), (1, .int ty)] [] h (op_Q h sz B) := by
  have hq := a_rq_of g.1.1 hn
  have etc : (nI tp).toNatClampNeg = tp := nI_clamp (by omega)
  refine xa_tn 12 [0, 2] [(0, .ref 39), (2, .int (Int32.ofInt 0))] [] (xh_ui h 47 (xg 0 h.2.1 39 28).toNatClampNeg ty) [] 10 hq rfl ⟨(show xe_in (xg 0 h.2.1 39 28) 13 = true by rw [htp]; exact xin_n (by omega) (by omega)), trivial⟩ (fun _ => ?_)
  rw [htp, etc]
  have hk1 : hk bg_md h (xh_ui h 47 tp ty) := hk_ui (s := (1, 13)) (lo := 0) (hi := 2) (hk_0 g.1) hn rfl rfl (by omega) (by omega) rfl rfl
  have a28 : xg 0 (xh_ui h 47 tp ty).2.1 39 28 = nI tp := by rw [gx_o (by decide)]; exact htp
  have a47 : xg 0 (xh_ui h 47 tp ty).2.1 47 tp = ty := gx_s
  have a47o : ∀ t, t ≠ tp → xg 0 (xh_ui h 47 tp ty).2.1 47 t = xg 0 h.2.1 47 t := fun t ht => gx_k ht
  have ao : ∀ c k, c ≠ 47 → xg 0 (xh_ui h 47 tp ty).2.1 c k = xg 0 h.2.1 c k := fun c k hc => gx_o hc
  generalize xh_ui h 47 tp ty = h1 at hk1 a28 a47 a47o ao ⊢
  have q1 := hk_q hk1 hn
  refine rl2_loop (h0 := h1) (c1 := 41) (c2 := 42) (B := 4096 * tp) (F1 := fun _ => 0) (F2 := fun _ => 1) (N := 4096) (P := fun s h' => xt_P (d + 2) xi_X10_openRule xmi_X10_openRule 12 [(0, .ref 39), (2, .int (nI s))] [] h' (op_Q h sz B)) (by decide) ?_ ?_
  · intro s h2 hs gl K
    have q2 := rl2_q gl q1
    have b28 : xg 0 h2.2.1 39 28 = nI tp := by rw [rl2_o gl (by omega) (by omega)]; exact a28
    have hin : xe_in ((4096 * (xg 0 h2.2.1 39 28)) + (nI s)) 53248 = true := by rw [b28, i4096]; exact xin_n (by omega) (by omega)
    have e1 : nI s + Int32.ofInt 1 = nI (s + 1) := nI_1 s
    have ecl : (nI (4096 * tp + s)).toNatClampNeg = 4096 * tp + s := nI_clamp (by omega)
    have c28 : xg 0 (xh_ui h2 41 ((4096 * (xg 0 h2.2.1 39 28)) + (nI s)).toNatClampNeg (vp_nar .boolean (Int32.ofInt 0))).2.1 39 28 = nI tp := by rw [gx_o (by decide)]; exact b28
    refine xa_tn 12 [0, 2] [(0, .ref 39), (2, .int ((nI s) + Int32.ofInt 1))] [] (xh_ui (xh_ui h2 41 ((4096 * (xg 0 h2.2.1 39 28)) + (nI s)).toNatClampNeg (vp_nar .boolean (Int32.ofInt 0))) 42 ((4096 * (xg 0 (xh_ui h2 41 ((4096 * (xg 0 h2.2.1 39 28)) + (nI s)).toNatClampNeg (vp_nar .boolean (Int32.ofInt 0))).2.1 39 28)) + (nI s)).toNatClampNeg (vp_nar .boolean (Int32.ofInt 1))) [false] 27 q2 rfl ⟨nge_f (b := 4096) (by omega) (by omega) hs, hin, (show xe_in ((4096 * (xg 0 (xh_ui h2 41 ((4096 * (xg 0 h2.2.1 39 28)) + (nI s)).toNatClampNeg (vp_nar .boolean (Int32.ofInt 0))).2.1 39 28)) + (nI s)) 53248 = true by rw [c28, i4096]; exact xin_n (by omega) (by omega)), trivial⟩ (fun _ => ?_)
    rw [c28, b28, i4096, ecl, e1]
    exact K
  · intro h2 gl
    have q2 := rl2_q gl q1
    have hk2 : hk bg_md h h2 := rl2_hk (k1 := 3) (z1 := 53248) (k2 := 3) (z2 := 53248) (l1 := 0) (u1 := 1) (l2 := 0) (u2 := 1) (by decide) gl hk1 hn rfl rfl (by decide) (by decide) rfl rfl (fun _ _ => by decide) (fun _ _ => by decide) (fun _ => rfl) (fun _ => rfl) (fun _ => rfl) (fun _ => rfl)
    refine xa_tn 63 [] [] [.ref 39] (xh_ui h2 39 29 (Int32.ofInt 1)) [true] 9 q2 rfl ⟨by decide, Or.inr rfl, trivial⟩ (fun _ => ?_)
    have hk3 : hk bg_md h (xh_ui h2 39 29 (Int32.ofInt 1)) := hk_ui (s := (0, 10)) (lo := 0) (hi := 1) hk2 hn rfl rfl (by decide) (by decide) rfl rfl
    have z29 : xg 0 (xh_ui h2 39 29 (Int32.ofInt 1)).2.1 39 29 = 1 := gx_s
    have zo : ∀ c k, ¬ (c = 39 ∧ k = 29) → xg 0 (xh_ui h2 39 29 (Int32.ofInt 1)).2.1 c k = xg 0 h2.2.1 c k := fun c k e => gx_i e
    generalize xh_ui h2 39 29 (Int32.ofInt 1) = h3 at hk3 z29 zo ⊢
    have e39 : ∀ k, k ≠ 29 → xg 0 h3.2.1 39 k = xg 0 h.2.1 39 k := fun k hk' => by rw [zo 39 k (fun z => hk' z.2), rl2_o gl (by omega) (by omega), ao 39 k (by decide)]
    have p3 : pi h3 sz := pi_tr g hk3 (go_Pc g.2.2.2.1 (fun k k1 k2 => e39 k (by omega)))
    refine xp_run (hk_q hk3 hn) rfl rfl (pg (d := d) (hk_n hk3 hn) p3) ?_
    rintro v h4 ⟨rfl, k4, p4, f4⟩
    have e47 : ∀ t, xg 0 h4.2.1 47 t = xg 0 h1.2.1 47 t := fun t => by rw [hk_g (c := 47) (k := t) k4 rfl rfl, zo 47 t (by omega), rl2_o gl (by omega) (by omega)]
    have e41 : ∀ k, xg 0 h4.2.1 41 k = xg 0 h2.2.1 41 k := fun k => by rw [hk_g (c := 41) (k := k) k4 rfl rfl, zo 41 k (by omega)]
    have e42 : ∀ k, xg 0 h4.2.1 42 k = xg 0 h2.2.1 42 k := fun k => by rw [hk_g (c := 42) (k := k) k4 rfl rfl, zo 42 k (by omega)]
    have e46 : ∀ k, xg 0 h4.2.1 46 k = xg 0 h.2.1 46 k := fun k => by rw [hk_g (c := 46) (k := k) k4 rfl rfl, zo 46 k (by omega), rl2_o gl (by omega) (by omega), ao 46 k (by decide)]
    refine xp_ret rfl rfl rfl ⟨rfl, hk_t hk3 k4 (by decide), ⟨p4, ?_, tp, ?_, t12, ?_⟩, ?_, ?_⟩
    · rw [e47]
      rcases h47 with ⟨z1, z2⟩ | ⟨z1, z2⟩
      · subst z1
        rw [a47, z2]
      · rw [a47o 0 (by omega)]
        exact z2
    · rw [hk_g (c := 39) (k := 28) k4 rfl rfl, e39 28 (by decide)]
      exact htp
    · intro t ht
      by_cases et : t = tp
      · subst et
        refine ⟨fun z => ?_, fun _ => ⟨mo_k (x := 0) (fun s hs => by rw [e41]; exact rl2_1 gl hs), mo_k (x := 1) (fun s hs => by rw [e42]; exact rl2_2 (by decide) gl hs)⟩⟩
        rw [e47, a47] at z
        rw [z] at hty
        exact absurd hty (by decide)
      · refine lvo_c (hlv t (by omega)) (fun s hs => ?_) (fun s hs => ?_) (fun s hs => e46 _) (by rw [e47, a47o t et])
        · rw [e41, rl2_o gl (by omega) (by omega), ao 41 _ (by decide)]
        · rw [e42, rl2_o gl (by omega) (by omega), ao 42 _ (by decide)]
    · rw [hk_g (c := 39) (k := 29) k4 rfl rfl]
      exact z29
    · intro z
      have f5 := f4 (by unfold kd at z ⊢; rw [e39 9 (by decide)]; exact z)
      unfold fr at f5 ⊢
      rw [e39 8 (by decide)] at f5
      exact f5
set_option maxRecDepth 100000 in
set_option maxHeartbeats 8000000 in
theorem opl_run {d sz tp n : Nat} {B : Int} {h : xh_H} (hB : 0 ≤ B) (hn : 72 ≤ h.1.length) (g : pi h sz) (htp : xg 0 h.2.1 39 28 = nI tp) (t1 : 1 ≤ tp) (t12 : tp ≤ 12) (hlv : ∀ t, t < tp → lvo h t B) (hn9 : n ≤ 999) (h47 : xg 0 h.2.1 47 0 = 0) : xt_P (d + 2) xi_X10_openList xmi_X10_openList 0 [(0, .ref 39), (1, .int (nI n))] [] h (op_Q h sz B) := by
  have hq := a_rq_of g.1.1 hn
  have etc : (nI tp).toNatClampNeg = tp := nI_clamp (by omega)
  have ni := nI_toInt (n := n) (by omega)
  have hin13 : ∀ h' : xh_H, xg 0 h'.2.1 39 28 = nI tp → xe_in (xg 0 h'.2.1 39 28) 13 = true := fun h' e => by rw [e]; exact xin_n (by omega) (by omega)
  refine xa_tn 10 [0, 1] [(0, .ref 39), (1, .int (nI n))] [] (xh_ui h 47 (xg 0 h.2.1 39 28).toNatClampNeg (Int32.ofInt 2)) [] 8 hq rfl ⟨hin13 h htp, trivial⟩ (fun _ => ?_)
  rw [htp, etc]
  have hk0 : hk bg_md h (xh_ui h 47 tp (Int32.ofInt 2)) := hk_ui (s := (1, 13)) (lo := 0) (hi := 2) (hk_0 g.1) hn rfl rfl (by decide) (by decide) rfl rfl
  have a28 : xg 0 (xh_ui h 47 tp (Int32.ofInt 2)).2.1 39 28 = nI tp := by rw [gx_o (by decide)]; exact htp
  refine xa_tn 20 [0, 1] [(0, .ref 39), (1, .int (nI n))] [] (xh_ui (xh_ui h 47 tp (Int32.ofInt 2)) 49 (xg 0 (xh_ui h 47 tp (Int32.ofInt 2)).2.1 39 28).toNatClampNeg (nI n)) [] 8 (hk_q hk0 hn) rfl ⟨hin13 _ a28, trivial⟩ (fun _ => ?_)
  rw [a28, etc]
  have hk0b : hk bg_md h (xh_ui (xh_ui h 47 tp (Int32.ofInt 2)) 49 tp (nI n)) := hk_ui (s := (1, 13)) (lo := -2147483648) (hi := 2147483647) hk0 hn rfl rfl (by omega) (by omega) rfl rfl
  have b28 : xg 0 (xh_ui (xh_ui h 47 tp (Int32.ofInt 2)) 49 tp (nI n)).2.1 39 28 = nI tp := by rw [gx_o (by decide)]; exact a28
  refine xa_tn 32 [0, 2] [(0, .ref 39), (2, .int (Int32.ofInt 0))] [] (xh_ui (xh_ui (xh_ui h 47 tp (Int32.ofInt 2)) 49 tp (nI n)) 48 (xg 0 (xh_ui (xh_ui h 47 tp (Int32.ofInt 2)) 49 tp (nI n)).2.1 39 28).toNatClampNeg (Int32.ofInt 1)) [] 10 (hk_q hk0b hn) rfl ⟨hin13 _ b28, trivial⟩ (fun _ => ?_)
  rw [b28, etc]
  have hk1 : hk bg_md h (xh_ui (xh_ui (xh_ui h 47 tp (Int32.ofInt 2)) 49 tp (nI n)) 48 tp (Int32.ofInt 1)) := hk_ui (s := (1, 13)) (lo := 0) (hi := 9999) hk0b hn rfl rfl (by decide) (by decide) rfl rfl
  have c28 : xg 0 (xh_ui (xh_ui (xh_ui h 47 tp (Int32.ofInt 2)) 49 tp (nI n)) 48 tp (Int32.ofInt 1)).2.1 39 28 = nI tp := by rw [gx_o (by decide)]; exact b28
  have a47 : xg 0 (xh_ui (xh_ui (xh_ui h 47 tp (Int32.ofInt 2)) 49 tp (nI n)) 48 tp (Int32.ofInt 1)).2.1 47 tp = 2 := by rw [gx_o (by decide), gx_o (by decide), gx_s]; rfl
  have a47o : ∀ t, t ≠ tp → xg 0 (xh_ui (xh_ui (xh_ui h 47 tp (Int32.ofInt 2)) 49 tp (nI n)) 48 tp (Int32.ofInt 1)).2.1 47 t = xg 0 h.2.1 47 t := fun t ht => by rw [gx_o (by decide), gx_o (by decide), gx_k ht]
  have ao : ∀ c k, c ≠ 47 → c ≠ 48 → c ≠ 49 → xg 0 (xh_ui (xh_ui (xh_ui h 47 tp (Int32.ofInt 2)) 49 tp (nI n)) 48 tp (Int32.ofInt 1)).2.1 c k = xg 0 h.2.1 c k := fun c k z1 z2 z3 => by rw [gx_o z2, gx_o z3, gx_o z1]
  generalize xh_ui (xh_ui (xh_ui h 47 tp (Int32.ofInt 2)) 49 tp (nI n)) 48 tp (Int32.ofInt 1) = h1 at hk1 c28 a47 a47o ao ⊢
  have q1 := hk_q hk1 hn
  refine rl_loop (h0 := h1) (c := 46) (B := 4096 * tp) (F := fun _ => 0) (N := 4096) (P := fun s h' => xt_P (d + 2) xi_X10_openList xmi_X10_openList 32 [(0, .ref 39), (2, .int (nI s))] [] h' (op_Q h sz B)) ?_ ?_
  · intro s h2 hs gl K
    have q2 := rl_q gl q1
    have d28 : xg 0 h2.2.1 39 28 = nI tp := by rw [rl_o gl (by omega)]; exact c28
    have e1 : nI s + Int32.ofInt 1 = nI (s + 1) := nI_1 s
    have ecl : (nI (4096 * tp + s)).toNatClampNeg = 4096 * tp + s := nI_clamp (by omega)
    refine xa_tn 32 [0, 2] [(0, .ref 39), (2, .int ((nI s) + Int32.ofInt 1))] [] (xh_ui h2 46 ((4096 * (xg 0 h2.2.1 39 28)) + (nI s)).toNatClampNeg (Int32.ofInt 0)) [false] 17 q2 rfl ⟨nge_f (b := 4096) (by omega) (by omega) hs, (show xe_in ((4096 * (xg 0 h2.2.1 39 28)) + (nI s)) 53248 = true by rw [d28, i4096]; exact xin_n (by omega) (by omega)), trivial⟩ (fun _ => ?_)
    rw [d28, i4096, ecl, e1]
    exact K
  · intro h2 gl
    have q2 := rl_q gl q1
    have hk2 : hk bg_md h h2 := rl_hk (kd := 1) (sz := 53248) (lo := -2147483648) (hi := 2147483647) gl hk1 hn rfl (by decide) rfl (fun _ _ => by decide) (fun _ => rfl) (fun _ => rfl)
    refine xa_tn 67 [] [] [.ref 39] (xh_ui h2 39 29 (Int32.ofInt 1)) [true] 9 q2 rfl ⟨by decide, Or.inr rfl, trivial⟩ (fun _ => ?_)
    have hk3 : hk bg_md h (xh_ui h2 39 29 (Int32.ofInt 1)) := hk_ui (s := (0, 10)) (lo := 0) (hi := 1) hk2 hn rfl rfl (by decide) (by decide) rfl rfl
    have z29 : xg 0 (xh_ui h2 39 29 (Int32.ofInt 1)).2.1 39 29 = 1 := gx_s
    have zo : ∀ c k, ¬ (c = 39 ∧ k = 29) → xg 0 (xh_ui h2 39 29 (Int32.ofInt 1)).2.1 c k = xg 0 h2.2.1 c k := fun c k e => gx_i e
    generalize xh_ui h2 39 29 (Int32.ofInt 1) = h3 at hk3 z29 zo ⊢
    have e39 : ∀ k, k ≠ 29 → xg 0 h3.2.1 39 k = xg 0 h.2.1 39 k := fun k hk' => by rw [zo 39 k (fun z => hk' z.2), rl_o gl (by omega), ao 39 k (by decide) (by decide) (by decide)]
    have p3 : pi h3 sz := pi_tr g hk3 (go_Pc g.2.2.2.1 (fun k k1 k2 => e39 k (by omega)))
    refine xp_run (hk_q hk3 hn) rfl rfl (pg (d := d) (hk_n hk3 hn) p3) ?_
    rintro v h4 ⟨rfl, k4, p4, f4⟩
    have e47 : ∀ t, xg 0 h4.2.1 47 t = xg 0 h1.2.1 47 t := fun t => by rw [hk_g (c := 47) (k := t) k4 rfl rfl, zo 47 t (by omega), rl_o gl (by omega)]
    have e46 : ∀ k, xg 0 h4.2.1 46 k = xg 0 h2.2.1 46 k := fun k => by rw [hk_g (c := 46) (k := k) k4 rfl rfl, zo 46 k (by omega)]
    have e41 : ∀ k, xg 0 h4.2.1 41 k = xg 0 h.2.1 41 k := fun k => by rw [hk_g (c := 41) (k := k) k4 rfl rfl, zo 41 k (by omega), rl_o gl (by omega), ao 41 k (by decide) (by decide) (by decide)]
    have e42 : ∀ k, xg 0 h4.2.1 42 k = xg 0 h.2.1 42 k := fun k => by rw [hk_g (c := 42) (k := k) k4 rfl rfl, zo 42 k (by omega), rl_o gl (by omega), ao 42 k (by decide) (by decide) (by decide)]
    refine xp_ret rfl rfl rfl ⟨rfl, hk_t hk3 k4 (by decide), ⟨p4, ?_, tp, ?_, t12, ?_⟩, ?_, ?_⟩
    · rw [e47, a47o 0 (by omega)]
      exact h47
    · rw [hk_g (c := 39) (k := 28) k4 rfl rfl, e39 28 (by decide)]
      exact htp
    · intro t ht
      by_cases et : t = tp
      · subst et
        refine ⟨fun _ => ⟨mo_k (x := 0) (fun s hs => by rw [e46]; exact rl_i gl hs), fun s hs => ?_⟩, fun z => absurd (by rw [e47]; exact a47) z⟩
        rw [e46, rl_i gl hs]
        exact ⟨by decide, hB⟩
      · refine lvo_c (hlv t (by omega)) (fun s hs => e41 _) (fun s hs => e42 _) (fun s hs => ?_) (by rw [e47, a47o t et])
        rw [e46, rl_o gl (by omega), ao 46 _ (by decide) (by decide) (by decide)]
    · rw [hk_g (c := 39) (k := 29) k4 rfl rfl]
      exact z29
    · intro z
      have f5 := f4 (by unfold kd at z ⊢; rw [e39 9 (by decide)]; exact z)
      unfold fr at f5 ⊢
      rw [e39 8 (by decide)] at f5
      exact f5
end XOP
