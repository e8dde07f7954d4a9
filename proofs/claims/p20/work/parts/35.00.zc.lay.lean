section XBY
theorem vn_01 {x : Int32} (h1 : 0 ≤ x.toInt) (h2 : x.toInt ≤ 1) : vp_nar .boolean x = x := by
  have h := a_i01 h1 h2
  rw [Bool.or_eq_true, decide_eq_true_eq, decide_eq_true_eq] at h
  rcases h with rfl | rfl <;> rfl
theorem cb_01 {h : xh_H} {k : Int} {s : Nat} (hi : a_inw a_tb h) (hn : 72 ≤ h.1.length) (hk1 : -1 ≤ k) (hk2 : k ≤ 7) (hs : s < 4096) : 0 ≤ (cb_v h k s).toInt ∧ (cb_v h k s).toInt ≤ 1 := by
  unfold cb_v
  split
  · split <;> decide
  · exact a_bl hi hn (show a_sh[44]? = some (3, 32768) by decide) (by decide) (by decide +kernel) (by omega)
theorem cb_ui {h : xh_H} {k : Int} {s j : Nat} {x : Int32} : cb_v (xh_ui h 53 j x) k s = cb_v h k s := by
  unfold cb_v
  rw [show xg 0 (xh_ui h 53 j x).2.1 39 4 = xg 0 h.2.1 39 4 from congrFun (xh_up_o (by decide)) 4, show xg 0 (xh_ui h 53 j x).2.1 44 (4096 * k.toNat + s) = xg 0 h.2.1 44 (4096 * k.toNat + s) from congrFun (xh_up_o (by decide)) _]
set_option maxRecDepth 100000 in
set_option maxHeartbeats 8000000 in
theorem ly_loop {d a : Nat} {k : Int32} (hk1 : -1 ≤ k.toInt) (hk2 : k.toInt ≤ 7) (ha : a ≤ 4096) : ∀ (n s : Nat) (h : xh_H), s + n = a → a_rq a_tb h → a_inw a_tb h → xg 0 h.2.1 39 35 = nI a → ∃ h', xR none (d + 1) xi_X10_lay xmi_X10_lay (24, [(2, .int (nI s)), (1, .int k), (0, .ref 39)], [], h, 0, 0) (none, h', 0, 0) ∧ a_inw a_tb h' ∧ h'.1 = h.1 ∧ (∀ c j, c ≠ 53 → xg 0 h'.2.1 c j = xg 0 h.2.1 c j) ∧ (∀ j, j < s → xg 0 h'.2.1 53 j = xg 0 h.2.1 53 j) ∧ ∀ j, s ≤ j → j < a → xg 0 h'.2.1 53 j = cb_v h k.toInt j := by
  intro n
  induction n with
  | zero =>
    intro s h hs hq hi hall
    refine ⟨h, ?_, hi, rfl, fun _ _ _ => rfl, fun _ _ => rfl, fun j h1 h2 => by omega⟩
    refine xa_to 50 [(2, .int (nI s)), (1, .int k), (0, .ref 39)] [] h [true] 20 hq rfl ⟨?_, trivial⟩ (fun _ => ?_)
    · rw [hall]
      refine decide_eq_true ?_
      show nI a ≤ nI s
      rw [Int32.le_iff_toInt_le, nI_toInt (by omega), nI_toInt (by omega)]
      omega
    · exact xR_ret rfl rfl rfl
  | succ n ih =>
    intro s h hs hq hi hall
    have es := nI_toInt (n := s) (by omega)
    have ecl : (nI s).toNatClampNeg = s := nI_clamp (by omega)
    have c01 := cb_01 (k := k.toInt) (s := s) hi hq.1 hk1 hk2 (by omega)
    have hs53 : h.1[53]? = some (3, 4096) := hq.2.1 53 _ (by decide)
    have hi2 : a_inw a_tb (xh_ui h 53 s (cb_v h k.toInt s)) := a_inw_ui (s := (3, 4096)) (lo := 0) (hi := 1) hi hs53 (by rw [a_tg_lt (by decide), a_ent0 (fun z => by cases z)]; decide +kernel) c01.1 c01.2
    obtain ⟨h', g1, g2, g3, g4, g5, g6⟩ := ih (s + 1) (xh_ui h 53 s (cb_v h k.toInt s)) (by omega) (a_rq_ui hq) hi2 (by rw [show xg 0 (xh_ui h 53 s (cb_v h k.toInt s)).2.1 39 35 = xg 0 h.2.1 39 35 from congrFun (xh_up_o (by decide)) 35]; exact hall)
    rw [← nI_1] at g1
    refine ⟨h', ?_, g2, g3, ?_, ?_, ?_⟩
    · refine xa_to 40 [(2, .int (nI s)), (1, .int k), (0, .ref 39)] [.int (nI s), .int k, .ref 39, .int (nI s), .ref 53] h [false] 20 hq rfl ⟨?_, trivial⟩ (fun _ => ?_)
      · rw [hall]
        refine decide_eq_false ?_
        show ¬ nI a ≤ nI s
        rw [Int32.le_iff_toInt_le, nI_toInt (by omega), nI_toInt (by omega)]
        omega
      refine xa_run hq rfl rfl (cb_run (d := d) (k := k) (s := s) hq hi hk1 hk2 (by omega)) ?_
      refine xa_to 24 [(2, .int (nI s + Int32.ofInt 1)), (1, .int k), (0, .ref 39)] [] (xh_ui h 53 (nI s).toNatClampNeg (vp_nar .boolean (cb_v h k.toInt s))) [] 20 hq rfl ⟨a_xin (by omega) (by omega), trivial⟩ (fun _ => ?_)
      rw [ecl, vn_01 c01.1 c01.2]
      exact g1
    · intro c j hc
      rw [g4 c j hc]
      exact congrFun (xh_up_o hc) j
    · intro j hj
      rw [g5 j (by omega)]
      exact xh_up_k (by omega)
    · intro j h1 h2
      by_cases e : j = s
      · subst e
        rw [g5 j (by omega)]
        exact xh_up_s
      · rw [g6 j (by omega) h2, cb_ui]
theorem and_full {s t m : Nat} (hs : s = 2 ^ m - 1) (ht : t < 2 ^ m) (h : s &&& t = s) : t = s := by
  have h1 : s &&& t ≤ t := Nat.and_le_right
  omega
set_option maxRecDepth 100000 in
set_option maxHeartbeats 8000000 in
theorem as_h_X10_lay : a_spec a_tb aC_h_X10_lay := by
  intro d mi vs h σ hd hM hi hn ha _
  cases hM
  match vs, ha with
  | [v0], ha =>
    obtain ⟨⟨q, rfl, hq⟩, -⟩ := ha
    have eq : q = 39 := a_r_ob (t := 39) (by decide) hq
    subst eq
    have hd : 1 ≤ d := hd
    obtain ⟨d, rfl⟩ : ∃ d', d = d' + 1 := ⟨d - 1, by omega⟩
    have hrq := a_rq_of hi.1 hn
    have em := a_fl (k := 4) (lo := 1) (hi := 12) hi.1 hn (show a_sh[39]? = some (0, 10) by decide) (by decide) (by decide +kernel) (by decide)
    have ec := a_fl (k := 33) (lo := 0) (hi := 8) hi.1 hn (show a_sh[39]? = some (0, 10) by decide) (by decide) (by decide +kernel) (by decide)
    obtain ⟨emn, -⟩ := a_nIx (y := xg 0 h.2.1 39 4) (by omega)
    have hp : ((2 ^ (xg 0 h.2.1 39 4).toInt.toNat : Nat) : Int) ≤ 4096 := a_pw (i := (xg 0 h.2.1 39 4).toInt.toNat) (j := 12) (by omega)
    have hp2 : ((2 ^ 1 : Nat) : Int) ≤ ((2 ^ (xg 0 h.2.1 39 4).toInt.toNat : Nat) : Int) := a_pw (by omega)
    have hsh := ar_shl (x := Int32.ofInt 1) (k := (xg 0 h.2.1 39 4).toInt.toNat) (by omega) (by decide) (by show (1 : Int) * _ ≤ _; omega)
    rw [← emn] at hsh
    have hsh : (Int32.ofInt 1 <<< (xg 0 h.2.1 39 4 &&& 31)).toInt = 1 * ((2 ^ (xg 0 h.2.1 39 4).toInt.toNat : Nat) : Int) := hsh
    generalize hM2 : 2 ^ (xg 0 h.2.1 39 4).toInt.toNat = a at *
    have hp2 : (2 : Int) ≤ (a : Int) := hp2
    obtain ⟨ea, -⟩ := a_nIx (y := Int32.ofInt 1 <<< (xg 0 h.2.1 39 4 &&& 31)) (by omega)
    have eaa : (Int32.ofInt 1 <<< (xg 0 h.2.1 39 4 &&& 31)).toInt.toNat = a := by omega
    rw [eaa] at ea
    obtain ⟨k, k1, k2, kr⟩ := if_run (d := d) (x := xg 0 h.2.1 39 3) (t := 999) hrq hi.1
    have hs39 : h.1[39]? = some (0, 10) := hrq.2.1 39 _ (by decide)
    have eaI := nI_toInt (n := a) (by omega)
    have hi1 : a_inw a_tb (xh_ui h 39 35 (nI a)) := a_inw_ui (s := (0, 10)) (lo := 0) (hi := 4096) hi.1 hs39 (by rw [a_tg_lt (by decide)]; decide +kernel) (by omega) (by omega)
    have s35 : xg 0 (xh_ui h 39 35 (nI a)).2.1 39 35 = nI a := xh_up_s
    have o39 : ∀ j, j ≠ 35 → xg 0 (xh_ui h 39 35 (nI a)).2.1 39 j = xg 0 h.2.1 39 j := fun j hj => xh_up_k hj
    have oc : ∀ c j, c ≠ 39 → xg 0 (xh_ui h 39 35 (nI a)).2.1 c j = xg 0 h.2.1 c j := fun c j hc => congrFun (xh_up_o hc) j
    obtain ⟨h', g1, g2, g3, g4, g5, g6⟩ := ly_loop (d := d) (a := a) (k := k) k1 (by omega) (by omega) a 0 (xh_ui h 39 35 (nI a)) (by omega) (a_rq_ui hrq) hi1 s35
    have f1 : ∀ c j, c ≠ 53 → ¬ (c = 39 ∧ j = 35) → xg 0 h'.2.1 c j = xg 0 h.2.1 c j := by
      intro c j hc hcj
      rw [g4 c j hc]
      by_cases e : c = 39
      · subst e
        exact o39 j (fun z => hcj ⟨rfl, z⟩)
      · exact oc c j e
    have f35 : xg 0 h'.2.1 39 35 = nI a := by rw [g4 39 35 (by decide)]; exact s35
    have fcb : ∀ j, cb_v (xh_ui h 39 35 (nI a)) k.toInt j = cb_v h k.toInt j := by
      intro j
      unfold cb_v
      rw [o39 4 (by decide), oc 44 _ (by decide)]
    have hJ : a_J a_tb h' := by
      obtain ⟨j1, j2, j3, j4⟩ := hi.2
      refine ⟨?_, ?_, ?_, ?_⟩
      · rw [f1 14 8 (by decide) (by omega), f1 14 7 (by decide) (by omega)]
        exact j1
      · intro n hn2 s t hs ht hst
        rw [f1 39 33 (by decide) (by omega)] at hn2
        have g := j2 n hn2 s t hs ht hst
        dsimp only at g ⊢
        rw [f1 44 _ (by decide) (by omega), f1 44 _ (by decide) (by omega)]
        exact g
      · intro s t hs ht hst
        rw [f35, eaI] at hs ht
        have hs : s < a := by omega
        have ht : t < a := by omega
        dsimp only
        rw [g6 s (Nat.zero_le s) hs, g6 t (Nat.zero_le t) ht, fcb, fcb]
        unfold cb_v
        by_cases ek : k.toInt = -1
        · rw [if_pos ek, if_pos ek, hM2]
          by_cases e1 : (s : Int) = (a : Int) - 1
          · have e2 : t = s := and_full (m := (xg 0 h.2.1 39 4).toInt.toNat) (by rw [hM2]; omega) (by rw [hM2]; exact ht) hst
            rw [e2]
            exact Int.le_refl _
          · rw [if_neg e1]
            split <;> decide
        · rw [if_neg ek, if_neg ek]
          exact j2 k.toInt.toNat (by omega) s t (by omega) (by omega) hst
      · intro tl x y z hx hy hz hxy hyz
        rw [f1 14 7 (by decide) (by omega)] at hx hy hz
        unfold a_ge at hxy hyz ⊢
        rw [f1 19 _ (by decide) (by omega)] at hxy hyz ⊢
        exact j4 tl x y z hx hy hz hxy hyz
    refine ⟨none, h', ?_, ⟨g2, hJ⟩, g3, ⟨_, List.mem_singleton.mpr rfl, rfl, ?_⟩, ?_⟩
    · refine xa_to 8 [(0, .ref 39)] [.int 999, .int (xg 0 h.2.1 39 3), .ref 39] h [] 20 hrq rfl trivial (fun _ => ?_)
      refine xa_run hrq rfl rfl kr ?_
      refine xa_to 24 [(2, .int 0), (1, .int k), (0, .ref 39)] [] (xh_ui h 39 35 (Int32.ofInt 1 <<< (xg 0 h.2.1 39 4 &&& 31))) [] 20 hrq rfl trivial (fun _ => ?_)
      rw [ea]
      exact g1
    · intro q hq
      rw [List.mem_singleton.mp hq]
      refine ⟨by decide, ?_⟩
      show (2 : Int) ≤ (xg 0 h'.2.1 39 35).toInt ∧ (xg 0 h'.2.1 39 35).toInt ≤ 4096
      rw [f35, eaI]
      omega
    · intro c j hc hm
      refine f1 c j (fun z => hm ?_) (fun z => hm ?_)
      · rw [z]
        exact List.mem_cons_of_mem _ List.mem_cons_self
      · rw [z.1, z.2]
        exact List.mem_cons_self
end XBY
