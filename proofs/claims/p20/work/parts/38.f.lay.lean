section XWG
set_option maxRecDepth 100000 in
set_option maxHeartbeats 8000000 in
/-- X10.lay, with how many sets there are -/
theorem ly_run {d : Nat} {h : xh_H} (hi : a_inv a_tb h) (hn : 72 ≤ h.1.length) : xt_P (d + 1) xi_X10_lay xmi_X10_lay 0 [(0, .ref 39)] [] h (fun v h' => v = none ∧ hk [(39, 35), (53, 0)] h h' ∧ ∃ m : Nat, xg 0 h'.2.1 39 4 = nI m ∧ 1 ≤ m ∧ m ≤ 12 ∧ xg 0 h'.2.1 39 35 = nI (2 ^ m)) := by
  have hrq := a_rq_of hi.1 hn
  have em := a_fl (k := 4) (lo := 1) (hi := 12) hi.1 hn (show a_sh[39]? = some (0, 10) by decide) (by decide) (by decide +kernel) (by decide)
  have ec := a_fl (k := 33) (lo := 0) (hi := 8) hi.1 hn (show a_sh[39]? = some (0, 10) by decide) (by decide) (by decide +kernel) (by decide)
  obtain ⟨emn, -⟩ := a_nIx (y := xg 0 h.2.1 39 4) (by omega)
  have hp : ((2 ^ (xg 0 h.2.1 39 4).toInt.toNat : Nat) : Int) ≤ 4096 := a_pw (i := (xg 0 h.2.1 39 4).toInt.toNat) (j := 12) (by omega)
  have hp2 : ((2 ^ 1 : Nat) : Int) ≤ ((2 ^ (xg 0 h.2.1 39 4).toInt.toNat : Nat) : Int) := a_pw (by omega)
  have hsh := ar_shl (x := Int32.ofInt 1) (k := (xg 0 h.2.1 39 4).toInt.toNat) (by omega) (by decide) (by show (1 : Int) * _ ≤ _; omega)
  rw [← emn] at hsh
  have hsh : (Int32.ofInt 1 <<< (xg 0 h.2.1 39 4 &&& 31)).toInt = 1 * ((2 ^ (xg 0 h.2.1 39 4).toInt.toNat : Nat) : Int) := hsh
  generalize hM2 : 2 ^ (xg 0 h.2.1 39 4).toInt.toNat = a at *
  have hp2 : (2 : Int) ≤ (a : Int) := hp2
  obtain ⟨ea, -⟩ := a_nIx (y := Int32.ofInt 1 <<< (xg 0 h.2.1 39 4 &&& 31)) (by omega)
  have eaa : (Int32.ofInt 1 <<< (xg 0 h.2.1 39 4 &&& 31)).toInt.toNat = a := by omega
  rw [eaa] at ea
  obtain ⟨k, k1, k2, kr⟩ := if_run (d := d) (x := xg 0 h.2.1 39 3) (t := 999) hrq hi.1
  have hs39 : h.1[39]? = some (0, 10) := hrq.2.1 39 _ (by decide)
  have eaI := nI_toInt (n := a) (by omega)
  have hi1 : a_inw a_tb (xh_ui h 39 35 (nI a)) := a_inw_ui (s := (0, 10)) (lo := 0) (hi := 4096) hi.1 hs39 (by rw [a_tg_lt (by decide)]; decide +kernel) (by omega) (by omega)
  have s35 : xg 0 (xh_ui h 39 35 (nI a)).2.1 39 35 = nI a := xh_up_s
  have o39 : ∀ j, j ≠ 35 → xg 0 (xh_ui h 39 35 (nI a)).2.1 39 j = xg 0 h.2.1 39 j := fun j hj => xh_up_k hj
  have oc : ∀ c j, c ≠ 39 → xg 0 (xh_ui h 39 35 (nI a)).2.1 c j = xg 0 h.2.1 c j := fun c j hc => congrFun (xh_up_o hc) j
  obtain ⟨h', g1, g2, g3, g4, g5, g6⟩ := ly_loop (d := d) (a := a) (k := k) k1 (by omega) (by omega) a 0 (xh_ui h 39 35 (nI a)) (by omega) (a_rq_ui hrq) hi1 s35
  have f1 : ∀ c j, c ≠ 53 → ¬ (c = 39 ∧ j = 35) → xg 0 h'.2.1 c j = xg 0 h.2.1 c j := by
    intro c j hc hcj
    rw [g4 c j hc]
    by_cases e : c = 39
    · subst e
      exact o39 j (fun z => hcj ⟨rfl, z⟩)
    · exact oc c j e
  have f35 : xg 0 h'.2.1 39 35 = nI a := by rw [g4 39 35 (by decide)]; exact s35
  have fcb : ∀ j, cb_v (xh_ui h 39 35 (nI a)) k.toInt j = cb_v h k.toInt j := by
    intro j
    unfold cb_v
    rw [o39 4 (by decide), oc 44 _ (by decide)]
  have hJ : a_J a_tb h' := by
    obtain ⟨j1, j2, j3, j4⟩ := hi.2
    refine ⟨?_, ?_, ?_, ?_⟩
    · rw [f1 14 8 (by decide) (by omega), f1 14 7 (by decide) (by omega)]
      exact j1
    · intro n hn2 s t hs ht hst
      rw [f1 39 33 (by decide) (by omega)] at hn2
      have g := j2 n hn2 s t hs ht hst
      dsimp only at g ⊢
      rw [f1 44 _ (by decide) (by omega), f1 44 _ (by decide) (by omega)]
      exact g
    · intro s t hs ht hst
      rw [f35, eaI] at hs ht
      have hs : s < a := by omega
      have ht : t < a := by omega
      dsimp only
      rw [g6 s (Nat.zero_le s) hs, g6 t (Nat.zero_le t) ht, fcb, fcb]
      unfold cb_v
      by_cases ek : k.toInt = -1
      · rw [if_pos ek, if_pos ek, hM2]
        by_cases e1 : (s : Int) = (a : Int) - 1
        · have e2 : t = s := and_full (m := (xg 0 h.2.1 39 4).toInt.toNat) (by rw [hM2]; omega) (by rw [hM2]; exact ht) hst
          rw [e2]
          exact Int.le_refl _
        · rw [if_neg e1]
          split <;> decide
      · rw [if_neg ek, if_neg ek]
        exact j2 k.toInt.toNat (by omega) s t (by omega) (by omega) hst
    · intro tl x y z hx hy hz hxy hyz
      rw [f1 14 7 (by decide) (by omega)] at hx hy hz
      unfold a_ge at hxy hyz ⊢
      rw [f1 19 _ (by decide) (by omega)] at hxy hyz ⊢
      exact j4 tl x y z hx hy hz hxy hyz
  refine ⟨none, h', ?_, rfl, ⟨⟨g2, hJ⟩, g3, ?_⟩, (xg 0 h.2.1 39 4).toInt.toNat, ?_, by omega, by omega, ?_⟩
  · refine xa_to 8 [(0, .ref 39)] [.int 999, .int (xg 0 h.2.1 39 3), .ref 39] h [] 20 hrq rfl trivial (fun _ => ?_)
    refine xa_run hrq rfl rfl kr ?_
    refine xa_to 24 [(2, .int 0), (1, .int k), (0, .ref 39)] [] (xh_ui h 39 35 (Int32.ofInt 1 <<< (xg 0 h.2.1 39 4 &&& 31))) [] 20 hrq rfl trivial (fun _ => ?_)
    rw [ea]
    exact g1
  · intro c j hc hm
    refine f1 c j (fun z => hm ?_) (fun z => hm ?_)
    · rw [z]
      exact List.mem_cons_of_mem _ List.mem_cons_self
    · rw [z.1, z.2]
      exact List.mem_cons_self
  · rw [f1 39 4 (by decide) (by omega)]
    exact emn
  · rw [hM2]
    exact f35
end XWG
