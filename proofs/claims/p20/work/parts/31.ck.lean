section XAN
/-- a call fits a contract: what comes behind it -/
def a_cl (tb : aT) (md : List (Nat × Nat)) (mj : xm_M) (k d : Nat) (A : aS) (C : aC) : Option (List aS) :=
  cond (a_ss A.2.2.1 (A.2.1.take C.2.2.1.length).reverse C.2.2.1 && (Nat.ble C.2.2.1.length A.2.1.length && (Nat.ble (a_cat (A.2.1.drop C.2.2.1.length)) 8 && (Nat.ble (a_cat (A.2.1.take C.2.2.1.length).reverse) mj.2.2.2.1 && (Nat.beq mj.2.2.2.2.2.1 k && (Nat.beq C.2.2.1.length (mj.2.2.2.2.2.2.1 + cond (Nat.beq k 0) 1 0) && (Nat.ble C.2.1 d && (C.2.2.2.2.1.all (fun q => a_mem md q) && (a_fk tb A C.2.2.2.2.2 && (match k with
    | 0 => (match C.2.2.1 with
      | a :: _ => Nat.beq a.1 2 && decide (a_sh[a.2.1.toNat]? = some (0, mj.2.2.2.2.2.2.2))
      | [] => false)
    | _ => true))))))))))
    (some (C.2.2.2.1.map fun t => (A.1, (match t.1 with
      | some a => a_rt (a_sl 0 (A.2.1.take C.2.2.1.length).reverse) a :: A.2.1.drop C.2.2.1.length
      | none => A.2.1.drop C.2.2.1.length), A.2.2.1, a_pf2 t.2 ++ A.2.2.2.filter (fun q => !(a_mem C.2.2.2.2.1 q.1))))) none
variable {tb : aT} {σ : aN → Int} {h0 : xh_H} {md : List (Nat × Nat)} {A : aS} {L : List aS} {lv : List (Nat × Value)} {st : List Value} {h : xh_H}
theorem a_mem_no {q : Nat × Nat} : ∀ {md : List (Nat × Nat)}, a_mem md q = false → q ∉ md := by
  intro md
  induction md with
  | nil => intro _ h; cases h
  | cons p t ih =>
    intro h hm
    unfold a_mem at h
    cases hb : a_nq p q with
    | true => rw [hb] at h; cases h
    | false =>
      rw [hb] at h
      rcases List.mem_cons.mp hm with rfl | hm
      · exact a_nq_no hb rfl
      · exact ih h hm
theorem a_take_drop {V : List Value} (k : Nat) : V = (V.take k).reverse.reverse ++ V.drop k := by
  rw [List.reverse_reverse, List.take_append_drop]
set_option maxHeartbeats 4000000 in
theorem a_cl_ok {C : aC} {mj : xm_M} {r : xr_R} {k d : Nat} (hk : (k = 0 ∧ ∃ i, r.1 = .invokevirtual i) ∨ (k = 1 ∧ (∃ i, r.1 = .invokestatic i) ∧ Nat.beq r.2.2.2.1 0 = true)) (hr : r.2.2.1 = C.1) (hmj : xM C.1 = some mj) (hC : a_spec tb C) (hs : a_s tb σ h0 md A lv st h) (hn : 72 ≤ h.1.length) (he : a_cl tb md mj k d A C = some L) : ∃ As q v h', xe_cl xM r st h = some (mj, As, q) ∧ xR none d r.2.2.1 mj (0, lv_args 0 As, [], h, 0, 0) (v, h', 0, 0) ∧ h'.1 = h.1 ∧ ∃ A' ∈ L, a_s tb σ h0 md A' lv (v.toList ++ q) h' := by
  have hs0 := hs
  obtain ⟨i1, i2, i3, i4, i5, i6, i7⟩ := hs0
  unfold a_cl at he
  obtain ⟨c0, ce⟩ := xw_c he
  obtain ⟨c1, u1⟩ := xw_bb c0
  obtain ⟨c2, u2⟩ := xw_bb u1
  obtain ⟨c3, u3⟩ := xw_bb u2
  obtain ⟨c4, u4⟩ := xw_bb u3
  obtain ⟨c5, u5⟩ := xw_bb u4
  obtain ⟨c6, u6⟩ := xw_bb u5
  obtain ⟨c7, u7⟩ := xw_bb u6
  obtain ⟨c8, u8⟩ := xw_bb u7
  obtain ⟨cp, c9⟩ := xw_bb u8
  have c2' := xw_ble c2
  have c7' := xw_ble c7
  obtain ⟨t1, t2⟩ := a_st_td C.2.2.1.length i4
  have tr := a_st_rev t1
  have targ : a_st σ h.1.length C.2.2.1 (st.take C.2.2.1.length).reverse := a_ss_ok i5 (fun _ _ => rfl) c1 tr
  obtain ⟨v, h', r1, p1, p2, ⟨t, ht, p3, p5⟩, p4⟩ := hC d mj (st.take C.2.2.1.length).reverse h σ c7' hmj i1 hn targ (a_fk_ok hs hn cp)
  have hlen : st.length = A.2.1.length := a_st_len i4
  have hcat1 : xm_cat (st.drop C.2.2.1.length) = a_cat (A.2.1.drop C.2.2.1.length) := a_cat_ok t2
  have hcat2 : xm_cat (st.take C.2.2.1.length).reverse = a_cat (A.2.1.take C.2.2.1.length).reverse := a_cat_ok tr
  have hcl : xe_cl xM r st h = some (mj, (st.take C.2.2.1.length).reverse, st.drop C.2.2.1.length) := by
    have c5' := xw_beq c5
    have c6' := xw_beq c6
    unfold xe_cl
    rw [hr, hmj]
    dsimp only
    rcases hk with ⟨rfl, i, hi⟩ | ⟨rfl, ⟨i, hi⟩, hb⟩
    · rw [hi]
      dsimp only at c6' ⊢
      have c9 : (match C.2.2.1 with
        | a :: _ => Nat.beq a.1 2 && decide (a_sh[a.2.1.toNat]? = some (0, mj.2.2.2.2.2.2.2))
        | [] => false) = true := c9
      split at c9
      · rename_i a rest hargs
        obtain ⟨c10, c11⟩ := xw_bb c9
        have c10 := xw_beq c10
        have c11 := of_decide_eq_true c11
        have e6 : C.2.2.1.length = mj.2.2.2.2.2.2.1 + 1 := c6'
        -- the receiver lies under the arguments
        have hrev : (st.take C.2.2.1.length).reverse = st[mj.2.2.2.2.2.2.1]'(by omega) :: (st.take mj.2.2.2.2.2.2.1).reverse := by
          rw [e6, List.take_succ_eq_append_getElem (by omega), List.reverse_append]
          rfl
        have hdrop : st.drop mj.2.2.2.2.2.2.1 = st[mj.2.2.2.2.2.2.1]'(by omega) :: st.drop C.2.2.1.length := by
          rw [e6]
          exact List.drop_eq_getElem_cons (by omega)
        rw [hrev, hargs] at targ
        obtain ⟨g1, -⟩ := targ
        unfold a_v at g1
        rw [c10] at g1
        obtain ⟨b, eb, g1⟩ := g1
        rw [hrev, hdrop, eb]
        dsimp only
        rw [a_sh_at i1 g1 c11]
        show (cond (Nat.beq mj.2.2.2.2.2.2.2 mj.2.2.2.2.2.2.2 && (Nat.beq mj.2.2.2.2.2.1 0 && (Nat.beq (st.take mj.2.2.2.2.2.2.1).length mj.2.2.2.2.2.2.1 && (Nat.ble (xm_cat (st.drop C.2.2.1.length)) 8 && Nat.ble (xm_cat (.ref b :: (st.take mj.2.2.2.2.2.2.1).reverse)) mj.2.2.2.1)))) (some (mj, .ref b :: (st.take mj.2.2.2.2.2.2.1).reverse, st.drop C.2.2.1.length)) none) = _
        rw [hrev, eb] at hcat2
        have q1 : Nat.beq (st.take mj.2.2.2.2.2.2.1).length mj.2.2.2.2.2.2.1 = true := by
          rw [List.length_take, show min mj.2.2.2.2.2.2.1 st.length = mj.2.2.2.2.2.2.1 from by omega]
          exact Nat.beq_refl _
        rw [Nat.beq_refl, c5, q1, hcat1, c3, hcat2, c4]
        rfl
      · cases c9
    · rw [hi]
      dsimp only at c6' ⊢
      have e6 : C.2.2.1.length = mj.2.2.2.2.2.2.1 := c6'
      have q1 : Nat.beq (st.take mj.2.2.2.2.2.2.1).length mj.2.2.2.2.2.2.1 = true := by
        rw [List.length_take, show min mj.2.2.2.2.2.2.1 st.length = mj.2.2.2.2.2.2.1 from by omega]
        exact Nat.beq_refl _
      rw [e6] at hcat1 hcat2 c3 c4 ⊢
      rw [hb, c5, q1, hcat1, c3, hcat2, c4]
      rfl
  refine ⟨_, _, v, h', hcl, by rw [hr]; exact r1, p2, ?_⟩
  have ce := Option.some.inj ce
  subst ce
  have hl : h'.1.length = h.1.length := by rw [p2]
  refine ⟨_, List.mem_map.mpr ⟨t, ht, rfl⟩, p1, p2.trans i2, ?_, ?_, i5, ?_, ?_⟩
  · rw [hl]
    exact i3
  · rw [hl]
    dsimp only
    split at p3
    · rename_i e
      simp only [e]
      rw [p3]
      exact t2
    · rename_i a e
      obtain ⟨w, rfl, g⟩ := p3
      simp only [e]
      exact ⟨a_rt_ok tr g, t2⟩
  · intro q hq
    rcases List.mem_append.mp hq with hq | hq
    · exact a_pf2_ok p5 q hq
    obtain ⟨hq, hm⟩ := List.mem_filter.mp hq
    obtain ⟨o1, o2⟩ := i6 q hq
    rw [Bool.not_eq_true'] at hm
    refine ⟨o1, ?_⟩
    rw [hl, p4 q.1.1 q.1.2 (a_ob_fz o1) (by rw [a_key_ob o1]; exact a_mem_no hm)]
    exact o2
  · intro c' k' hc hm
    rw [p4 c' k' hc (fun z => hm (a_mem_ok (List.all_eq_true.mp c8 _ z)))]
    exact i7 c' k' hc hm
end XAN
