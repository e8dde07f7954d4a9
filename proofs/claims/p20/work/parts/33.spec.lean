section XAQ
/-- an argument at a method's entry -/
def a_ea (q : Nat × aV) : Nat × aV := (q.1, cond (Nat.beq q.2.1 0) (0, q.2.2.1, q.2.2.2.1, some ((0, 100 + q.1), 0), [], []) (q.2.1, q.2.2.1, q.2.2.2.1, none, [], []))
def a_e0 (args : List aV) (P : aP) : aS := ((a_sl 0 args).map a_ea, [], ((a_sl 0 args).map a_ea).flatMap (fun q => a_fo q.2), a_pf2 P)
variable {tb : aT}
theorem a_e0_ok {C : aC} {vs : List Value} {h : xh_H} {σ : aN → Int} (hi : a_inv tb h) (ha : a_st σ h.1.length C.2.2.1 vs) (hP : a_fp C.2.2.2.2.2 h) : a_s tb (a_sg vs) h C.2.2.2.2.1 (a_e0 C.2.2.1 C.2.2.2.2.2) (lv_args 0 vs) [] h := by
  have hL : ∀ q ∈ (a_sl 0 C.2.2.1).map a_ea, ∃ v, xl_get (lv_args 0 vs) q.1 = some v ∧ a_v (a_sg vs) h.1.length q.2 v := by
    intro q hq
    obtain ⟨p, hp, rfl⟩ := List.mem_map.mp hq
    obtain ⟨v, g1, g2⟩ := a_sl_ok (i := 0) ha p hp
    refine ⟨v, g1, ?_⟩
    obtain ⟨i, k, lo, hi', o, ft, ff⟩ := p
    unfold a_ea
    dsimp only at g1 g2 ⊢
    cases hb : Nat.beq k 0 with
    | true =>
      have hb := xw_beq hb
      subst hb
      obtain ⟨x, rfl, k1, k2, -⟩ := g2
      refine ⟨x, rfl, k1, k2, ?_, fun _ q hq => (by cases hq), fun _ q hq => (by cases hq)⟩
      intro m c e
      cases e
      unfold a_sg
      rw [show (100 + i) - 100 = i from by omega, g1]
      dsimp only
      omega
    | false =>
      dsimp only [cond_false]
      unfold a_v at g2 ⊢
      dsimp only at g2 ⊢
      split at g2
      · cases hb
      · exact g2
      · exact g2
      · exact g2
      · exact g2
  refine ⟨hi, rfl, hL, trivial, ?_, a_pf2_ok hP, fun _ _ _ _ => rfl⟩
  intro p hp
  obtain ⟨q, k1, k2⟩ := List.mem_flatMap.mp hp
  obtain ⟨v, -, k3⟩ := hL q k1
  exact a_fo_ok k3 p k2
/-- A METHOD THAT THE CHECKER PASSES KEEPS ITS CONTRACT -/
theorem a_meth {C : aC} {Sp : List aC} {hd : List aH} {mi : xm_M} (fuel : Nat) (hM : xM C.1 = some mi) (hSp : ∀ D ∈ Sp, a_spec tb D) (hck : (hd.all fun H => a_h0 H && a_ck tb C.2.2.2.2.1 Sp hd H C.1 mi.2.2.2.1 C.2.1 mi.2.2.2.2.1 C.2.2.2.1 fuel false H.1 (a_hd H)) = true) (hent : (hd.any fun G => Nat.beq G.1 0 && a_en tb (a_e0 C.2.2.1 C.2.2.2.2.2) G) = true) : a_spec tb C := by
  intro d mi' vs h σ hd1 hM' hi hn ha hP
  rw [hM] at hM'
  cases hM'
  have main : ∀ (N : Nat) (G : aH), G ∈ hd → ∀ (σ' : aN → Int) (lv : List (Nat × Value)) (st : List Value) (h1 : xh_H), a_s tb σ' h C.2.2.2.2.1 (a_hd G) lv st h1 → (∀ m, a_per m = true → σ' m = a_sg vs m) → (a_rv σ' G).toNat < N → ∃ v h', xR none d C.1 mi (G.1, lv, st, h1, 0, 0) (v, h', 0, 0) ∧ a_post tb h C.2.2.2.2.1 (a_sg vs) C.2.2.2.1 v h' := by
    intro N
    induction N with
    | zero => intro G _ σ' lv st h1 _ _ hN; omega
    | succ N ihN =>
      intro G hG σ' lv st h1 hs hσ hN
      obtain ⟨g1, g2⟩ := xw_bb (List.all_eq_true.mp hck G hG)
      have r0 := a_h0_ok hs.2.2.2.2.1 g1
      refine a_ck_ok (σ := σ') (H := G) ⟨rfl, rfl⟩ hd1 hSp hσ hn ?_ fuel false G.1 (a_hd G) lv st h1 g2 hs
      intro G2 hG2 lv2 st2 h2 hs2 hlt
      have r2 := a_h0_ok hs2.2.2.2.2.1 (xw_bb (List.all_eq_true.mp hck G2 hG2)).1
      refine ihN G2 hG2 _ lv2 st2 h2 hs2 (fun m hm => ?_) (by omega)
      rw [a_sn_per hm]
      exact hσ m hm
  obtain ⟨G, hG, he⟩ := List.any_eq_true.mp hent
  obtain ⟨g1, g2⟩ := xw_bb he
  have g1 := xw_beq g1
  have hs := a_en_ok (a_e0_ok hi ha hP) hn g2
  have := main _ G hG _ _ _ _ hs (fun m hm => a_sn_per hm) (Nat.lt_succ_self _)
  rw [g1] at this
  exact this
end XAQ
