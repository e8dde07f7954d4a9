section XRR
theorem pi_trm {md : List (Nat × Nat)} {h h' : xh_H} {sz : Nat} (g : pi h sz) (hk0 : hk md h h') (gp : go_P h' sz 0) (m6 : a_mb md 39 6 = false) (m26 : a_mb md 39 26 = false) (m43 : ∀ k, a_mb md 43 k = false) : pi h' sz := by
  obtain ⟨g1, g2, g3, g4, nn, g5, g6, g7⟩ := g
  refine ⟨hk0.1, g2, by rw [hk_g (c := 39) (k := 6) hk0 rfl m6]; exact g3, gp, nn, by rw [hk_g (c := 39) (k := 26) hk0 rfl m26]; exact g5, g6, fun k hk' => ?_⟩
  exact mo_c (g7 k hk') (fun s _ => hk_g hk0 rfl (m43 _))
/-- what reading a rule leaves -/
def rd_Q (h0 : xh_H) (sz : Nat) (v : Option Value) (h' : xh_H) : Prop := hk ed_md h0 h' ∧ (v = some (.int 0) ∨ (v = some (.int 1) ∧ pi h' sz ∧ mo h' 45 0 ∧ fr h0 < fr h'))
set_option maxRecDepth 100000 in
set_option maxHeartbeats 8000000 in
theorem rd_lp {d sz : Nat} {h0 : xh_H} (hn : 72 ≤ h0.1.length) : ∀ (n : Nat) (h : xh_H) (B : Int), 0 ≤ B → B + 9999 * (n : Int) ≤ 12998700 → hk ed_md h0 h → rI h sz B → fr h0 < fr h → xg 0 h.2.1 39 30 = 0 → ((xg 0 h.2.1 39 29 = 1 ∧ 2 * (641 - fr h) ≤ n) ∨ (xg 0 h.2.1 39 29 = 0 ∧ mo h 45 0 ∧ 2 * (641 - fr h) + 1 ≤ n)) → xt_P (d + 7) xi_X10_readRule xmi_X10_readRule 15 [(0, .ref 39)] [] h (rd_Q h0 sz) := by
  intro n
  induction n with
  | zero =>
    intro h B hB hBn hk0 g hf h30 hm
    have := (kd_fr g.1.2.2.2.1).1
    omega
  | succ n ih =>
    intro h B hB hBn hk0 g hf h30 hm
    have hq := hk_q hk0 hn
    have hn1 := hk_n hk0 hn
    have f640 := (kd_fr g.1.2.2.2.1).1
    rcases hm with ⟨h29, hm⟩ | ⟨h29, h45, hm⟩
    · refine xa_tn 30 [0] [(0, .ref 39)] [.ref 39] h [false, false] 9 hq rfl ⟨(show xe_c .ne (xg 0 h.2.1 39 30) 0 = false by rw [h30]; rfl), (show xe_c .eq (xg 0 h.2.1 39 29) 0 = false by rw [h29]; rfl), trivial⟩ (fun _ => ?_)
      refine xp_run hq rfl rfl (be_run (d := d) hB hn1 g) ?_
      rintro v h1 ⟨kk1, g1⟩
      have hk1 : hk ed_md h0 h1 := hk_t hk0 kk1 (by decide)
      rcases g1 with rfl | ⟨rfl, r1, f1, a1⟩
      · refine xa_tn 47 [] [] [.int (Int32.ofInt 0)] h1 [true] 4 (hk_q hk1 hn) rfl ⟨rfl, trivial⟩ (fun _ => ?_)
        exact xp_ret rfl rfl rfl ⟨hk1, Or.inl rfl⟩
      · refine xa_tn 15 [0] [(0, .ref 39)] [] h1 [false] 4 (hk_q hk1 hn) rfl ⟨rfl, trivial⟩ (fun _ => ?_)
        have f2 := (kd_fr r1.1.2.2.2.1).1
        refine ih h1 B hB (by omega) hk1 r1 (by omega) (by rw [hk_g (c := 39) (k := 30) kk1 rfl rfl]; exact h30) ?_
        rcases a1 with z | ⟨z1, z2⟩
        · exact Or.inl ⟨z, by omega⟩
        · exact Or.inr ⟨z1, z2, by omega⟩
    · refine xa_tn 40 [0] [(0, .ref 39)] [.ref 39] h [false, true] 9 hq rfl ⟨(show xe_c .ne (xg 0 h.2.1 39 30) 0 = false by rw [h30]; rfl), (show xe_c .eq (xg 0 h.2.1 39 29) 0 = true by rw [h29]; rfl), trivial⟩ (fun _ => ?_)
      refine xp_run hq rfl rfl (en_run' (d := d + 4) hB (by omega) hn1 g h45 h30 h29) ?_
      rintro v h1 ⟨kk1, g1⟩
      have hk1 : hk ed_md h0 h1 := hk_t hk0 kk1 (fun _ z => z)
      rcases g1 with rfl | ⟨rfl, g1⟩
      · refine xa_tn 47 [] [] [.int (Int32.ofInt 0)] h1 [false] 4 (hk_q hk1 hn) rfl ⟨rfl, trivial⟩ (fun _ => ?_)
        exact xp_ret rfl rfl rfl ⟨hk1, Or.inl rfl⟩
      · refine xa_tn 15 [0] [(0, .ref 39)] [] h1 [true] 3 (hk_q hk1 hn) rfl ⟨rfl, trivial⟩ (fun _ => ?_)
        rcases g1 with ⟨d1, p1, m1, k1, e1⟩ | ⟨d1, r1, g2⟩
        · refine xa_tn 49 [] [] [.ref 39] h1 [true] 6 (hk_q hk1 hn) rfl ⟨(show xe_c .ne (xg 0 h1.2.1 39 30) 0 = true by rw [d1]; rfl), trivial⟩ (fun _ => ?_)
          refine xp_run (hk_q hk1 hn) rfl rfl (pg (d := d + 5) (hk_n hk1 hn) p1) ?_
          rintro v h2 ⟨rfl, k2, p2, f2⟩
          have hk2 : hk ed_md h0 h2 := hk_t hk1 k2 (by decide)
          refine xa_tn 53 [] [] [.int (Int32.ofInt 1)] h2 [] 3 (hk_q hk2 hn) rfl trivial (fun _ => ?_)
          have f3 := f2 (by omega)
          exact xp_ret rfl rfl rfl ⟨hk2, Or.inr ⟨rfl, p2, mo_c m1 (fun s _ => hk_g k2 rfl rfl), by omega⟩⟩
        · have f2 := (kd_fr r1.1.2.2.2.1).1
          refine ih h1 (B + 9999) (by omega) (by omega) hk1 r1 (by omega) d1 ?_
          rcases g2 with ⟨f1, z | ⟨z1, z2⟩⟩ | ⟨f1, z⟩
          · exact Or.inl ⟨z, by omega⟩
          · exact Or.inr ⟨z1, z2, by omega⟩
          · exact Or.inl ⟨z, by omega⟩
set_option maxRecDepth 100000 in
set_option maxHeartbeats 8000000 in
/-- X10.readRule -/
theorem rd_run {d sz : Nat} {h : xh_H} (hn : 72 ≤ h.1.length) (g : pi h sz) (hkd : 2 ≤ kd h) : xt_P (d + 7) xi_X10_readRule xmi_X10_readRule 0 [(0, .ref 39)] [] h (rd_Q h sz) := by
  have hq := a_rq_of g.1.1 hn
  refine xa_tn 12 [0] [(0, .ref 39)] [.int (Int32.ofInt 0), .ref 39] (xh_ui (xh_ui h 39 28 (Int32.ofInt 0)) 39 30 (Int32.ofInt 0)) [] 10 hq rfl ⟨Or.inl rfl, trivial⟩ (fun _ => ?_)
  have hk0 : hk ed_md h (xh_ui h 39 28 (Int32.ofInt 0)) := hk_ui (s := (0, 10)) (lo := 0) (hi := 12) (hk_0 g.1) hn rfl rfl (by decide) (by decide) rfl rfl
  have hk1 : hk ed_md h (xh_ui (xh_ui h 39 28 (Int32.ofInt 0)) 39 30 (Int32.ofInt 0)) := hk_ui (s := (0, 10)) (lo := 0) (hi := 1) hk0 hn rfl rfl (by decide) (by decide) rfl rfl
  have e28 : xg 0 (xh_ui (xh_ui h 39 28 (Int32.ofInt 0)) 39 30 (Int32.ofInt 0)).2.1 39 28 = nI 0 := by rw [gx_k (by decide), gx_s]; rfl
  have e30 : xg 0 (xh_ui (xh_ui h 39 28 (Int32.ofInt 0)) 39 30 (Int32.ofInt 0)).2.1 39 30 = 0 := gx_s
  have eo : ∀ c k, ¬ (c = 39 ∧ (k = 28 ∨ k = 30)) → xg 0 (xh_ui (xh_ui h 39 28 (Int32.ofInt 0)) 39 30 (Int32.ofInt 0)).2.1 c k = xg 0 h.2.1 c k := fun c k e => by rw [gx_i (by omega), gx_i (by omega)]
  generalize xh_ui (xh_ui h 39 28 (Int32.ofInt 0)) 39 30 (Int32.ofInt 0) = h1 at hk1 e28 e30 eo ⊢
  have hn1 := hk_n hk1 hn
  have p1 : pi h1 sz := pi_trm g hk1 (go_Pc g.2.2.2.1 (fun k k1 k2 => eo 39 k (by omega))) rfl rfl (fun _ => rfl)
  refine xp_run (hk_q hk1 hn) rfl rfl (opr_run (d := d + 4) (tp := 0) (B := 0) (ty := Int32.ofInt 0) hn1 p1 e28 (by decide) (fun t ht => absurd ht (Nat.not_lt_zero t)) (by decide) (Or.inl ⟨rfl, rfl⟩)) ?_
  rintro v h2 ⟨rfl, kk2, r2, aw, f2⟩
  have hk2 : hk ed_md h h2 := hk_t hk1 kk2 (by decide)
  have f3 := f2 (by unfold kd at hkd ⊢; rw [eo 39 9 (by omega)]; exact hkd)
  rw [fr_c (h := h) (h' := h1) (eo 39 8 (by omega))] at f3
  exact rd_lp hn 1282 h2 0 (by decide) (by decide) hk2 r2 f3 (by rw [hk_g (c := 39) (k := 30) kk2 rfl rfl]; exact e30) (Or.inl ⟨aw, by omega⟩)
end XRR
