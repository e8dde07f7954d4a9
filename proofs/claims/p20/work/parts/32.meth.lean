section XAP
def a_imp (E F : aF) : Bool := F.all fun q => a_per q.1 && (match a_fd E q.1 with
  | some (l, h) => decide (q.2.1 ≤ l) && decide (h ≤ q.2.2)
  | none => false)
theorem a_imp_ok {σ σe : aN → Int} {E F : aF} (hE : a_f σ E) (hσ : ∀ m, a_per m = true → σ m = σe m) (he : a_imp E F = true) : a_f σe F := by
  intro q hq
  have g := List.all_eq_true.mp he q hq
  obtain ⟨g1, g2⟩ := xw_bb g
  split at g2
  · rename_i l hh e
    obtain ⟨g2, g3⟩ := xw_bb g2
    have g2 := of_decide_eq_true g2
    have g3 := of_decide_eq_true g3
    have k := a_fd_ok hE e
    rw [hσ _ g1] at k
    dsimp only at k
    omega
  · cases g2
def a_rti (E : aF) (rty : Option FieldType) (a b : aV) : Bool := Nat.beq a.1 0 && (Nat.beq b.1 0 && (decide (b.2.1 ≤ (a_bd E a).1) && (decide ((a_bd E a).2 ≤ b.2.2.1) && (b.2.2.2.1.isNone && (((decide ((a_bd E a).1 = 0) && decide ((a_bd E a).2 = 0)) || a_imp (a_ads E a.2.2.2.2.1) b.2.2.2.2.1) && (((decide (0 < (a_bd E a).1) || decide ((a_bd E a).2 < 0)) || a_imp (a_ads E a.2.2.2.2.2) b.2.2.2.2.2) && (match rty with
  | some .int => true
  | some .boolean => decide (0 ≤ (a_bd E a).1) && decide ((a_bd E a).2 ≤ 1)
  | _ => false)))))))
theorem a_rti_ok {σ σe : aN → Int} {n : Nat} {E : aF} {rty : Option FieldType} {a b : aV} {v : Value} (hE : a_f σ E) (hσ : ∀ m, a_per m = true → σ m = σe m) (hv : a_v σ n a v) (he : a_rti E rty a b = true) : xe_rv .ireturn rty [v] = some (some v) ∧ a_v σe n b v := by
  unfold a_rti at he
  obtain ⟨c1, u1⟩ := xw_bb he
  obtain ⟨c2, u2⟩ := xw_bb u1
  obtain ⟨c3, u3⟩ := xw_bb u2
  obtain ⟨c4, u4⟩ := xw_bb u3
  obtain ⟨c5, u5⟩ := xw_bb u4
  obtain ⟨c6, u6⟩ := xw_bb u5
  obtain ⟨c7, c8⟩ := xw_bb u6
  have c1 := xw_beq c1
  have c2 := xw_beq c2
  have c3 := of_decide_eq_true c3
  have c4 := of_decide_eq_true c4
  unfold a_v at hv
  rw [c1] at hv
  obtain ⟨x, rfl, hx⟩ := hv
  have hb := a_bd_ok hE hx
  have e0 : (0 : Int32).toInt = 0 := rfl
  refine ⟨?_, ?_⟩
  · unfold xe_rv
    dsimp only
    split at c8
    · rfl
    · obtain ⟨g1, g2⟩ := xw_bb c8
      have g1 := of_decide_eq_true g1
      have g2 := of_decide_eq_true g2
      dsimp only
      rw [a_i01 (by omega) (by omega)]
      rfl
    · cases c8
  · refine a_vi c2 ⟨by omega, by omega, ?_, ?_, ?_⟩
    · intro m c e
      rw [e] at c5
      cases c5
    · intro z
      rw [Bool.or_eq_true] at c6
      rcases c6 with g | g
      · obtain ⟨g1, g2⟩ := xw_bb g
        have g1 := of_decide_eq_true g1
        have g2 := of_decide_eq_true g2
        exact absurd (Int32.toInt_inj.mp (show x.toInt = (0 : Int32).toInt by omega)) z
      · exact a_imp_ok (a_ads_ok hE (hx.2.2.2.1 z)) hσ g
    · intro z
      rw [Bool.or_eq_true] at c7
      rcases c7 with g | g
      · rw [Bool.or_eq_true, decide_eq_true_eq, decide_eq_true_eq] at g
        rw [z] at hb
        omega
      · exact a_imp_ok (a_ads_ok hE (hx.2.2.2.2 z)) hσ g
/-- a local is asked whether it is null -/
def a_nul (mid pc : Nat) (A : aS) (k : Nat) : Option (aV × Nat) := match xC mid (pc + 2) with
  | some r2 => (match r2.1 with
    | .ifnull _ => (match a_lk A.1 k with
      | some a => cond (Nat.beq a.1 3) (some (a, r2.2.2.1)) none
      | none => none)
    | _ => none)
  | none => none
/-- THE CHECKER: from a place on, up to returns and heads -/
def a_ck (tb : aT) (md : List (Nat × Nat)) (Sp : List aC) (hd : List aH) (H : aH) (mid nL dep : Nat) (rty : Option FieldType) (ret : List (Option aV × aP)) : Nat → Bool → Nat → aS → Bool
  | 0, _, _, _ => false
  | f + 1, b, pc, A => cond (b && hd.any (fun G => Nat.beq G.1 pc)) (hd.any fun G => Nat.beq G.1 pc && a_ed tb A H G) (match xC mid pc with
    | none => false
    | some r => (match r.1 with
      | .goto _ => a_ck tb md Sp hd H mid nL dep rty ret f true r.2.2.1 A
      | .ifCond k _ => (match a_pi A.2.1 with
        | some (x, q) => (match a_cmp k A.2.2.1 x (a_I 0 0) with
            | none => true
            | some E => a_ck tb md Sp hd H mid nL dep rty ret f true r.2.2.1 (A.1, q, E, A.2.2.2)) && (match a_cmp (a_neg k) A.2.2.1 x (a_I 0 0) with
            | none => true
            | some E => a_ck tb md Sp hd H mid nL dep rty ret f true (pc + 3) (A.1, q, E, A.2.2.2))
        | none => false)
      | .if_icmp k _ => (match a_pi A.2.1 with
        | some (y, q) => (match a_pi q with
          | some (x, q) => (match a_cmp k A.2.2.1 x y with
              | none => true
              | some E => a_ck tb md Sp hd H mid nL dep rty ret f true r.2.2.1 (A.1, q, E, A.2.2.2)) && (match a_cmp (a_neg k) A.2.2.1 x y with
              | none => true
              | some E => a_ck tb md Sp hd H mid nL dep rty ret f true (pc + 3) (A.1, q, E, A.2.2.2))
          | none => false)
        | none => false)
      | .ireturn => (match A.2.1 with
        | [a] => ret.any fun t => (match t.1 with
          | some b => a_rti A.2.2.1 rty a b
          | none => false) && a_fk tb A t.2
        | _ => false)
      | .return_ => (match A.2.1 with
        | [] => ret.any fun t => (match t.1 with
          | none => (match rty with
            | none => true
            | some _ => false)
          | some _ => false) && a_fk tb A t.2
        | _ => false)
      | .lreturn => (match A.2.1 with
        | [a] => ret.any fun t => (match t.1 with
          | some b => Nat.beq a.1 1 && (Nat.beq b.1 1 && (decide (b.2.1 ≤ a.2.1) && (decide (a.2.2.1 ≤ b.2.2.1) && (match rty with
            | some .long => true
            | _ => false))))
          | none => false) && a_fk tb A t.2
        | _ => false)
      | .areturn => (match A.2.1 with
        | [a] => ret.any fun t => (match t.1 with
          | some b => Nat.beq a.1 2 && (Nat.beq b.1 2 && (decide (b.2.1 = a.2.1) && (match rty with
            | some (.object _) => true
            | _ => false)))
          | none => false) && a_fk tb A t.2
        | _ => false)
      | .aload k => (match a_nul mid pc A k with
        | some (a, tgt) => a_ck tb md Sp hd H mid nL dep rty ret f true (pc + 5) ((k, (2, a.2.1, 0, none, [], [])) :: A.1, A.2) && a_ck tb md Sp hd H mid nL dep rty ret f true tgt A
        | none => (match a_stp tb md nL r A with
          | some (n, A') => a_ck tb md Sp hd H mid nL dep rty ret f true (pc + n) A'
          | none => false))
      | .if_acmp .ne _ => (match a_pr A.2.1 with
        | some (_, q) => (match a_pr q with
          | some (_, q) => a_ck tb md Sp hd H mid nL dep rty ret f true r.2.2.1 (A.1, q, A.2.2) && a_ck tb md Sp hd H mid nL dep rty ret f true (pc + 3) (A.1, q, A.2.2)
          | none => false)
        | none => false)
      | .ifnull _ => (match a_pr A.2.1 with
        | some (_, q) => a_ck tb md Sp hd H mid nL dep rty ret f true (pc + 3) (A.1, q, A.2.2)
        | none => false)
      | .tableswitch dflt lo hi offs => (match a_pi A.2.1 with
        | some (x, q) => decide (0 ≤ (pc : Int) + dflt) && (a_ck tb md Sp hd H mid nL dep rty ret f true ((pc : Int) + dflt).toNat (A.1, q, A.2.2) && (decide (hi - lo < (offs.size : Int)) && ((List.range offs.size).all fun i => match offs[i]? with
          | some off => decide (0 ≤ (pc : Int) + off) && (match a_rf A.2.2.1 x (lo + (i : Int)) (lo + (i : Int)) with
            | none => true
            | some E => a_ck tb md Sp hd H mid nL dep rty ret f true ((pc : Int) + off).toNat (A.1, q, E, A.2.2.2))
          | none => false)))
        | none => false)
      | .invokevirtual _ => (match r.2.2.2.1 with
        | 0 => Sp.any fun C => Nat.beq C.1 r.2.2.1 && (Nat.ble 1 dep && (match xM C.1 with
          | some mj => (match a_cl tb md mj 0 (dep - 1) A C with
            | some L => L.all fun A' => a_ck tb md Sp hd H mid nL dep rty ret f true (pc + 3) A'
            | none => false)
          | none => false))
        | 3 => (match A.2.1 with
          | g :: q => (Nat.beq g.1 4 && (decide (2 ≤ g.2.1) && (decide (g.2.1 ≤ 6) && (Nat.ble 2 dep && Nat.ble (a_cat q) 8)))) && a_ck tb md Sp hd H mid nL dep rty ret f true (pc + 3) (A.1, a_I (js_len (g.2.1.toNat - 2)).toInt (js_len (g.2.1.toNat - 2)).toInt :: q, A.2.2)
          | [] => false)
        | 4 => (match a_pi A.2.1 with
          | some (x, g :: q) => (Nat.beq g.1 4 && (decide (2 ≤ g.2.1) && (decide (g.2.1 ≤ 6) && (decide (0 ≤ (a_bd A.2.2.1 x).1) && (decide ((a_bd A.2.2.1 x).2 < (js_lens.getD (g.2.1.toNat - 2) 0 : Int)) && (Nat.ble 4 dep && Nat.ble (a_cat q) 8)))))) && a_ck tb md Sp hd H mid nL dep rty ret f true (pc + 3) (A.1, a_top :: q, A.2.2)
          | _ => false)
        | _ => false)
      | .invokestatic _ => cond (Nat.beq r.2.2.2.1 2) (match a_pi A.2.1 with
        | some (y, q) => (match a_pi q with
          | some (x, q) => Nat.ble 1 dep && (Nat.ble (a_cat q) 8 && a_ck tb md Sp hd H mid nL dep rty ret f true (pc + 3) (A.1, a_I (min (a_bd A.2.2.1 x).1 (a_bd A.2.2.1 y).1) (min (a_bd A.2.2.1 x).2 (a_bd A.2.2.1 y).2) :: q, A.2.2))
          | none => false)
        | none => false) (Nat.beq r.2.2.2.1 0 && (Sp.any fun C => Nat.beq C.1 r.2.2.1 && (Nat.ble 1 dep && (match xM C.1 with
        | some mj => (match a_cl tb md mj 1 (dep - 1) A C with
          | some L => L.all fun A' => a_ck tb md Sp hd H mid nL dep rty ret f true (pc + 3) A'
          | none => false)
        | none => false))))
      | _ => (match a_stp tb md nL r A with
        | some (n, A') => a_ck tb md Sp hd H mid nL dep rty ret f true (pc + n) A'
        | none => false)))
theorem js_u : ∀ n, n < 7 → (UInt32.ofNat n).toNat = n := by decide
theorem a_cl_mono {tb : aT} {md : List (Nat × Nat)} {mj : xm_M} {k d d' : Nat} {A : aS} {L : List aS} {C : aC} (hd : d ≤ d') (he : a_cl tb md mj k d A C = some L) : a_cl tb md mj k d' A C = some L := by
  unfold a_cl at he ⊢
  obtain ⟨c0, ce⟩ := xw_c he
  obtain ⟨c1, u1⟩ := xw_bb c0
  obtain ⟨c2, u2⟩ := xw_bb u1
  obtain ⟨c3, u3⟩ := xw_bb u2
  obtain ⟨c4, u4⟩ := xw_bb u3
  obtain ⟨c5, u5⟩ := xw_bb u4
  obtain ⟨c6, u6⟩ := xw_bb u5
  obtain ⟨c7, u7⟩ := xw_bb u6
  obtain ⟨c8, u8⟩ := xw_bb u7
  obtain ⟨cp, c9⟩ := xw_bb u8
  have c7' : Nat.ble C.2.1 d' = true := Nat.ble_eq.mpr (Nat.le_trans (xw_ble c7) hd)
  rw [c1, c2, c3, c4, c5, c6, c7', c8, cp, c9]
  exact ce
variable {tb : aT} {σ σe : aN → Int} {h0 : xh_H} {md : List (Nat × Nat)} {Sp : List aC} {hd : List aH} {H : aH} {mid nL dep d : Nat} {rty : Option FieldType} {ret : List (Option aV × aP)} {mi : xm_M}
set_option maxHeartbeats 8000000 in
theorem a_ck_ok (hm : mi.2.2.2.1 = nL ∧ mi.2.2.2.2.1 = rty) (hdep : dep ≤ d) (hSp : ∀ C ∈ Sp, a_spec tb C) (hσ : ∀ m, a_per m = true → σ m = σe m) (hn : 72 ≤ h0.1.length)
    (IH : ∀ G ∈ hd, ∀ (lv : List (Nat × Value)) (st : List Value) (h : xh_H), a_s tb (a_sn σ lv h) h0 md (a_hd G) lv st h → a_rv (a_sn σ lv h) G < a_rv σ H → ∃ v h', xR none d mid mi (G.1, lv, st, h, 0, 0) (v, h', 0, 0) ∧ a_post tb h0 md σe ret v h') :
    ∀ (f : Nat) (b : Bool) (pc : Nat) (A : aS) (lv : List (Nat × Value)) (st : List Value) (h : xh_H), a_ck tb md Sp hd H mid nL dep rty ret f b pc A = true → a_s tb σ h0 md A lv st h → ∃ v h', xR none d mid mi (pc, lv, st, h, 0, 0) (v, h', 0, 0) ∧ a_post tb h0 md σe ret v h' := by
  intro f
  induction f with
  | zero => intro b pc A lv st h he; cases he
  | succ f ih =>
    intro b pc A lv st h he hs
    have hs0 := hs
    obtain ⟨i1, i2, i3, i4, i5, i6, i7⟩ := hs0
    have hn' : 72 ≤ h.1.length := by rw [i2]; exact hn
    unfold a_ck at he
    cases hb : (b && hd.any (fun G => Nat.beq G.1 pc)) with
    | true =>
      rw [hb] at he
      dsimp only [cond_true] at he
      obtain ⟨G, hG, he⟩ := List.any_eq_true.mp he
      obtain ⟨g1, g2⟩ := xw_bb he
      have g1 := xw_beq g1
      obtain ⟨k1, k2⟩ := a_ed_ok hs hn' g2
      have := IH G hG lv st h k1 k2
      rw [g1] at this
      exact this
    | false =>
      rw [hb] at he
      dsimp only [cond_false] at he
      cases hr : xC mid pc with
      | none => rw [hr] at he; cases he
      | some r =>
        rw [hr] at he
        dsimp only at he
        have call : ∀ (k : Nat) (C : aC), ((k = 0 ∧ (∃ i, r.1 = .invokevirtual i) ∧ Nat.beq r.2.2.2.1 0 = true) ∨ (k = 1 ∧ (∃ i, r.1 = .invokestatic i) ∧ Nat.beq r.2.2.2.1 0 = true)) → C ∈ Sp → (Nat.beq C.1 r.2.2.1 && (Nat.ble 1 dep && (match xM C.1 with
            | some mj => (match a_cl tb md mj k (dep - 1) A C with
              | some L => L.all fun A' => a_ck tb md Sp hd H mid nL dep rty ret f true (pc + 3) A'
              | none => false)
            | none => false))) = true → ∃ v h', xR none d mid mi (pc, lv, st, h, 0, 0) (v, h', 0, 0) ∧ a_post tb h0 md σe ret v h' := by
          intro k C hk hC hc
          obtain ⟨g1, g2⟩ := xw_bb hc
          obtain ⟨g2, g3⟩ := xw_bb g2
          have g1 := xw_beq g1
          have g2 := xw_ble g2
          split at g3
          · rename_i mj hmj
            split at g3
            · rename_i L hcl
              obtain ⟨d', rfl⟩ : ∃ d', d = d' + 1 := ⟨d - 1, by omega⟩
              obtain ⟨As, q, v, h', e1, e2, e3, A', hA', e4⟩ := a_cl_ok (hk.imp (fun z => ⟨z.1, z.2.1⟩) (fun z => z)) g1.symm hmj (hSp C hC) hs hn' (a_cl_mono (d' := d') (by omega) hcl)
              obtain ⟨v2, h2, f1, f2⟩ := ih true (pc + 3) A' lv (v.toList ++ q) h' (List.all_eq_true.mp g3 A' hA') e4
              refine ⟨v2, h2, ?_, f2⟩
              refine xR_call hr ?_ ?_ e1 e2 f1
              · rcases hk with ⟨-, ⟨i, hi⟩, -⟩ | ⟨-, ⟨i, hi⟩, -⟩ <;> rw [hi] <;> rfl
              · obtain ⟨ri, r1, r2, r3, r4, r5⟩ := r
                dsimp only at hk
                rcases hk with ⟨-, ⟨i, rfl⟩, hbz⟩ | ⟨-, ⟨i, rfl⟩, hbz⟩
                · have hz := xw_beq hbz
                  subst hz
                  rfl
                · have hz := xw_beq hbz
                  subst hz
                  rfl
            · cases g3
          · cases g3
        have plain : (match a_stp tb md nL r A with
            | some (n, A') => a_ck tb md Sp hd H mid nL dep rty ret f true (pc + n) A'
            | none => false) = true → xe_isr r.1 = false → ∃ v h', xR none d mid mi (pc, lv, st, h, 0, 0) (v, h', 0, 0) ∧ a_post tb h0 md σe ret v h' := by
          intro hc hi
          split at hc
          · rename_i n A' hst
            obtain ⟨lv', st', h', e1, e2⟩ := a_stp_ok (d := d) (pc := pc) hs hst
            obtain ⟨v2, h2, f1, f2⟩ := ih true (pc + n) A' lv' st' h' hc e2
            rw [← hm.1] at e1
            exact ⟨v2, h2, xR_step hr hi e1 f1, f2⟩
          · cases hc
        obtain ⟨ri, r1, r2, r3, r4, r5⟩ := r
        cases ri
        case goto off =>
          obtain ⟨v2, h2, f1, f2⟩ := ih true r2 A lv st h he hs
          exact ⟨v2, h2, xR_step hr rfl rfl f1, f2⟩
        case ifCond k off =>
          dsimp only at he
          split at he
          · rename_i x q hq
            obtain ⟨g1, g2⟩ := xw_bb he
            obtain ⟨y, V, rfl, hy, hV, _⟩ := a_pi_ok i4 hq
            cases hc : xe_c k y 0 with
            | true =>
              obtain ⟨E, k1, k2⟩ := a_cmp_ok i5 hy (a_I_ok (lo := 0) (hi := 0) (x := 0) (by decide) (by decide)) hc
              rw [k1] at g1
              obtain ⟨v2, h2, f1, f2⟩ := ih true r2 (A.1, q, E, A.2.2.2) lv V h g1 ⟨i1, i2, i3, hV, k2, i6, i7⟩
              exact ⟨v2, h2, xR_step hr rfl (by simp [xe_2, xe_1, xp_i, hc]) f1, f2⟩
            | false =>
              obtain ⟨E, k1, k2⟩ := a_cmp_ok i5 hy (a_I_ok (lo := 0) (hi := 0) (x := 0) (by decide) (by decide)) (a_neg_ok hc)
              rw [k1] at g2
              obtain ⟨v2, h2, f1, f2⟩ := ih true (pc + 3) (A.1, q, E, A.2.2.2) lv V h g2 ⟨i1, i2, i3, hV, k2, i6, i7⟩
              exact ⟨v2, h2, xR_step hr rfl (by simp [xe_2, xe_1, xp_i, hc]) f1, f2⟩
          · cases he
        case if_icmp k off =>
          dsimp only at he
          split at he
          · rename_i y q hq
            split at he
            · rename_i x q2 hq2
              obtain ⟨g1, g2⟩ := xw_bb he
              obtain ⟨z, V, rfl, hz, hV, _⟩ := a_pi_ok i4 hq
              obtain ⟨w, V, rfl, hw, hV, _⟩ := a_pi_ok hV hq2
              cases hc : xe_c k w z with
              | true =>
                obtain ⟨E, k1, k2⟩ := a_cmp_ok i5 hw hz hc
                rw [k1] at g1
                obtain ⟨v2, h2, f1, f2⟩ := ih true r2 (A.1, q2, E, A.2.2.2) lv V h g1 ⟨i1, i2, i3, hV, k2, i6, i7⟩
                exact ⟨v2, h2, xR_step hr rfl (by simp [xe_2, xe_1, xp_ii, hc]) f1, f2⟩
              | false =>
                obtain ⟨E, k1, k2⟩ := a_cmp_ok i5 hw hz (a_neg_ok hc)
                rw [k1] at g2
                obtain ⟨v2, h2, f1, f2⟩ := ih true (pc + 3) (A.1, q2, E, A.2.2.2) lv V h g2 ⟨i1, i2, i3, hV, k2, i6, i7⟩
                exact ⟨v2, h2, xR_step hr rfl (by simp [xe_2, xe_1, xp_ii, hc]) f1, f2⟩
            · cases he
          · cases he
        case ireturn =>
          dsimp only at he
          split at he
          · rename_i a ha
            obtain ⟨t, ht, he⟩ := List.any_eq_true.mp he
            obtain ⟨he, hfk⟩ := xw_bb he
            split at he
            · rename_i b2 hb2
              rw [ha] at i4
              match st, i4, hs with
              | [v], i4, hs =>
                obtain ⟨g1, g2⟩ := a_rti_ok i5 hσ i4.1 he
                rw [← hm.2] at g1
                refine ⟨some v, h, xR_ret hr rfl g1, i1, i2, ⟨t, ht, ?_, a_fk_ok hs hn' hfk⟩, i7⟩
                rw [i2] at g2
                rw [hb2]
                exact ⟨v, rfl, g2⟩
            · cases he
          · cases he
        case return_ =>
          dsimp only at he
          split at he
          · rename_i ha
            obtain ⟨t, ht, he⟩ := List.any_eq_true.mp he
            obtain ⟨he, hfk⟩ := xw_bb he
            split at he
            · rename_i ht1
              split at he
              · rw [ha] at i4
                match st, i4, hs with
                | [], _, hs =>
                  refine ⟨none, h, xR_ret hr rfl ?_, i1, i2, ⟨t, ht, ?_, a_fk_ok hs hn' hfk⟩, i7⟩
                  · rw [hm.2]
                    rfl
                  · rw [ht1]
              · cases he
            · cases he
          · cases he
        case lreturn =>
          dsimp only at he
          split at he
          · rename_i a ha
            obtain ⟨t, ht, he⟩ := List.any_eq_true.mp he
            obtain ⟨he, hfk⟩ := xw_bb he
            split at he
            · rename_i b2 hb2
              rw [ha] at i4
              match st, i4, hs with
              | [v], i4, hs =>
                obtain ⟨c1, u1⟩ := xw_bb he
                obtain ⟨c2, u2⟩ := xw_bb u1
                obtain ⟨c3, u3⟩ := xw_bb u2
                obtain ⟨c4, c5⟩ := xw_bb u3
                have c1 := xw_beq c1
                have c2 := xw_beq c2
                have c3 := of_decide_eq_true c3
                have c4 := of_decide_eq_true c4
                have g := i4.1
                unfold a_v at g
                rw [c1] at g
                obtain ⟨x, rfl, g1, g2⟩ := g
                split at c5
                · refine ⟨some (.long x), h, xR_ret hr rfl (by rw [hm.2]; rfl), i1, i2, ⟨t, ht, ?_, a_fk_ok hs hn' hfk⟩, i7⟩
                  rw [hb2]
                  refine ⟨.long x, rfl, ?_⟩
                  unfold a_v
                  rw [c2]
                  exact ⟨x, rfl, by omega, by omega⟩
                · cases c5
            · cases he
          · cases he
        case areturn =>
          dsimp only at he
          split at he
          · rename_i a ha
            obtain ⟨t, ht, he⟩ := List.any_eq_true.mp he
            obtain ⟨he, hfk⟩ := xw_bb he
            split at he
            · rename_i b2 hb2
              rw [ha] at i4
              match st, i4, hs with
              | [v], i4, hs =>
                obtain ⟨c1, u1⟩ := xw_bb he
                obtain ⟨c2, u2⟩ := xw_bb u1
                obtain ⟨c3, c5⟩ := xw_bb u2
                have c1 := xw_beq c1
                have c2 := xw_beq c2
                have c3 := of_decide_eq_true c3
                have g := i4.1
                unfold a_v at g
                rw [c1] at g
                obtain ⟨x, rfl, g1⟩ := g
                split at c5
                · refine ⟨some (.ref x), h, xR_ret hr rfl (by rw [hm.2]; rfl), i1, i2, ⟨t, ht, ?_, a_fk_ok hs hn' hfk⟩, i7⟩
                  rw [hb2]
                  refine ⟨.ref x, rfl, ?_⟩
                  unfold a_v
                  rw [c2, c3, ← i2]
                  exact ⟨x, rfl, g1⟩
                · cases c5
            · cases he
          · cases he
        case aload k =>
          dsimp only at he
          split at he
          · rename_i a tgt hnul
            unfold a_nul at hnul
            split at hnul
            · rename_i rr hr2
              split at hnul
              · rename_i off2 hi2
                split at hnul
                · rename_i a2 ha2
                  obtain ⟨c1, c2⟩ := xw_c hnul
                  have c1 := xw_beq c1
                  have e1 : a2 = a := (Prod.mk.inj (Option.some.inj c2)).1
                  have e2 : rr.2.2.1 = tgt := (Prod.mk.inj (Option.some.inj c2)).2
                  subst e1
                  obtain ⟨g1, g2⟩ := xw_bb he
                  obtain ⟨v, k1, k2⟩ := i3 _ (a_lk_mem ha2)
                  have k3 := k2
                  unfold a_v at k3
                  rw [c1] at k3
                  have hld : ∀ w, xv_k 2 w = true → xl_get lv k = some w → xe_2 none mi.2.2.2.1 (.aload k, r1, r2, r3, r4, r5) d pc lv st h 0 0 = some (pc + 2, lv, w :: st, h, 0, 0) := by
                    intro w hw hg
                    unfold xe_2 xe_1 xe_ld
                    dsimp only
                    rw [hg]
                    dsimp only
                    rw [hw]
                    rfl
                  rcases k3 with rfl | ⟨q, rfl, hq⟩
                  · obtain ⟨v2, h2, f1, f2⟩ := ih true tgt A lv st h g2 hs
                    refine ⟨v2, h2, xR_step hr rfl (hld _ rfl k1) ?_, f2⟩
                    obtain ⟨j0, j1, j2, j3⟩ := rr
                    dsimp only at hi2 e2
                    subst hi2
                    refine xR_step hr2 rfl (o1 := (tgt, lv, st, h, 0, 0)) ?_ f1
                    rw [← e2]
                    rfl
                  · obtain ⟨v2, h2, f1, f2⟩ := ih true (pc + 5) ((k, (2, a2.2.1, 0, none, [], [])) :: A.1, A.2) lv st h g1 ⟨i1, i2, fun p hp => by
                      rcases List.mem_cons.mp hp with rfl | hp
                      · exact ⟨.ref q, k1, q, rfl, hq⟩
                      · exact i3 p hp, i4, i5, i6, i7⟩
                    refine ⟨v2, h2, xR_step hr rfl (hld _ rfl k1) ?_, f2⟩
                    obtain ⟨j0, j1, j2, j3⟩ := rr
                    dsimp only at hi2
                    subst hi2
                    exact xR_step hr2 rfl (o1 := (pc + 2 + 3, lv, st, h, 0, 0)) rfl f1
                · cases hnul
              · cases hnul
            · cases hnul
          · exact plain he rfl
        case ifnull off =>
          dsimp only at he
          split at he
          · rename_i t q hq
            obtain ⟨b2, V, rfl, hb2, hV⟩ := a_pr_ok i4 hq
            obtain ⟨v2, h2, f1, f2⟩ := ih true (pc + 3) (A.1, q, A.2.2) lv V h he ⟨i1, i2, i3, hV, i5, i6, i7⟩
            exact ⟨v2, h2, xR_step hr rfl rfl f1, f2⟩
          · cases he
        case tableswitch dflt lo hi offs =>
          dsimp only at he
          split at he
          · rename_i x q hq
            obtain ⟨c1, u1⟩ := xw_bb he
            obtain ⟨c2, u2⟩ := xw_bb u1
            obtain ⟨c3, c4⟩ := xw_bb u2
            have c3 := of_decide_eq_true c3
            obtain ⟨y, V, rfl, hy, hV, _⟩ := a_pi_ok i4 hq
            cases hc : (decide (y.toInt < lo) || decide (hi < y.toInt)) with
            | true =>
              obtain ⟨v2, h2, f1, f2⟩ := ih true _ (A.1, q, A.2.2) lv V h c2 ⟨i1, i2, i3, hV, i5, i6, i7⟩
              exact ⟨v2, h2, xR_step hr rfl (by simp only [xe_2, xe_1, xp_i]; rw [hc, c1]; rfl) f1, f2⟩
            | false =>
              rw [Bool.or_eq_false_iff, decide_eq_false_iff_not, decide_eq_false_iff_not] at hc
              have hlt : (y.toInt - lo).toNat < offs.size := by omega
              have g := List.all_eq_true.mp c4 (y.toInt - lo).toNat (List.mem_range.mpr hlt)
              split at g
              · rename_i off hoff
                obtain ⟨g1, g2⟩ := xw_bb g
                obtain ⟨E, k1, k2⟩ := a_rf_ok (lo := lo + ((y.toInt - lo).toNat : Int)) (hi := lo + ((y.toInt - lo).toNat : Int)) i5 hy (by omega) (by omega)
                rw [k1] at g2
                obtain ⟨v2, h2, f1, f2⟩ := ih true _ (A.1, q, E, A.2.2.2) lv V h g2 ⟨i1, i2, i3, hV, k2, i6, i7⟩
                have hc2 : (decide (y.toInt < lo) || decide (hi < y.toInt)) = false := by
                  rw [Bool.or_eq_false_iff, decide_eq_false_iff_not, decide_eq_false_iff_not]
                  exact hc
                exact ⟨v2, h2, xR_step hr rfl (by simp only [xe_2, xe_1, xp_i]; rw [hc2, hoff]; dsimp only [cond_false]; rw [g1]; rfl) f1, f2⟩
              · cases g
          · cases he
        case invokevirtual i =>
          dsimp only at he
          split at he
          · obtain ⟨C, hC, hc⟩ := List.any_eq_true.mp he
            exact call 0 C (Or.inl ⟨rfl, ⟨i, rfl⟩, rfl⟩) hC hc
          · split at he
            · rename_i g q hg
              obtain ⟨c0, ck⟩ := xw_bb he
              obtain ⟨c1, c0⟩ := xw_bb c0
              obtain ⟨c2, c0⟩ := xw_bb c0
              obtain ⟨c3, c0⟩ := xw_bb c0
              obtain ⟨c4, c5⟩ := xw_bb c0
              have c1 := xw_beq c1
              have c2 := of_decide_eq_true c2
              have c3 := of_decide_eq_true c3
              have c4 := xw_ble c4
              rw [hg] at i4
              match st, i4 with
              | v :: V, i4 =>
                have hv := i4.1
                unfold a_v at hv
                rw [c1] at hv
                have hv : v = .float (UInt32.ofNat g.2.1.toNat) := hv
                subst hv
                have hu : (UInt32.ofNat g.2.1.toNat).toNat = g.2.1.toNat := js_u _ (by omega)
                obtain ⟨d', rfl⟩ : ∃ d', d = d' + 2 := ⟨d - 2, by omega⟩
                obtain ⟨v2, h2, f1, f2⟩ := ih true (pc + 3) _ lv (.int (js_len (g.2.1.toNat - 2)) :: V) h ck ⟨i1, i2, i3, ⟨a_vi rfl (a_I_ok (Int.le_refl _) (Int.le_refl _)), i4.2⟩, i5, i6, i7⟩
                refine ⟨v2, h2, xR_step hr rfl (o1 := (pc + 3, lv, .int (js_len (g.2.1.toNat - 2)) :: V, h, 0, 0)) ?_ f1, f2⟩
                show (cond (js_ok (UInt32.ofNat g.2.1.toNat) && Nat.ble (xm_cat V) 8) (some (pc + 3, lv, .int (js_len ((UInt32.ofNat g.2.1.toNat).toNat - 2)) :: V, h, 0, 0)) none) = _
                have hok : js_ok (UInt32.ofNat g.2.1.toNat) = true := by
                  unfold js_ok
                  rw [hu, Nat.ble_eq.mpr (show 2 ≤ g.2.1.toNat by omega), Nat.ble_eq.mpr (show g.2.1.toNat ≤ 6 by omega)]
                  rfl
                rw [hok, a_cat_ok i4.2, c5, hu]
                rfl
            · cases he
          · split at he
            · rename_i x g q hq
              obtain ⟨c0, ck⟩ := xw_bb he
              obtain ⟨c1, c0⟩ := xw_bb c0
              obtain ⟨c2, c0⟩ := xw_bb c0
              obtain ⟨c3, c0⟩ := xw_bb c0
              obtain ⟨c6, c0⟩ := xw_bb c0
              obtain ⟨c7, c0⟩ := xw_bb c0
              obtain ⟨c4, c5⟩ := xw_bb c0
              have c1 := xw_beq c1
              have c2 := of_decide_eq_true c2
              have c3 := of_decide_eq_true c3
              have c4 := xw_ble c4
              have c6 := of_decide_eq_true c6
              have c7 := of_decide_eq_true c7
              obtain ⟨y, V, rfl, hy, hV, _⟩ := a_pi_ok i4 hq
              have by' := a_bd_ok i5 hy
              match V, hV with
              | v :: V, hV =>
                have hv := hV.1
                unfold a_v at hv
                rw [c1] at hv
                have hv : v = .float (UInt32.ofNat g.2.1.toNat) := hv
                subst hv
                have hu : (UInt32.ofNat g.2.1.toNat).toNat = g.2.1.toNat := js_u _ (by omega)
                obtain ⟨d', rfl⟩ : ∃ d', d = d' + 4 := ⟨d - 4, by omega⟩
                obtain ⟨v2, h2, f1, f2⟩ := ih true (pc + 3) _ lv (.int (js_ch (g.2.1.toNat - 2) y.toNatClampNeg) :: V) h ck ⟨i1, i2, i3, ⟨a_vi rfl (a_top_ok _), hV.2⟩, i5, i6, i7⟩
                refine ⟨v2, h2, xR_step hr rfl (o1 := (pc + 3, lv, .int (js_ch (g.2.1.toNat - 2) y.toNatClampNeg) :: V, h, 0, 0)) ?_ f1, f2⟩
                show (cond (js_ok (UInt32.ofNat g.2.1.toNat) && (xe_in y (js_lens.getD ((UInt32.ofNat g.2.1.toNat).toNat - 2) 0) && Nat.ble (xm_cat V) 8)) (some (pc + 3, lv, .int (js_ch ((UInt32.ofNat g.2.1.toNat).toNat - 2) y.toNatClampNeg) :: V, h, 0, 0)) none) = _
                have hok : js_ok (UInt32.ofNat g.2.1.toNat) = true := by
                  unfold js_ok
                  rw [hu, Nat.ble_eq.mpr (show 2 ≤ g.2.1.toNat by omega), Nat.ble_eq.mpr (show g.2.1.toNat ≤ 6 by omega)]
                  rfl
                rw [hok, hu, a_xin (by omega) (by omega), a_cat_ok hV.2, c5]
                rfl
            · cases he
          · cases he
        case invokestatic i =>
          dsimp only at he
          cases hb2 : Nat.beq r3 2 with
          | true =>
            rw [hb2] at he
            dsimp only [cond_true] at he
            have e3 := xw_beq hb2
            subst e3
            split at he
            · rename_i y q hq
              split at he
              · rename_i x q2 hq2
                obtain ⟨c1, c2⟩ := xw_bb he
                obtain ⟨c2, c3⟩ := xw_bb c2
                have c1 := xw_ble c1
                obtain ⟨z, V, rfl, hz, hV, _⟩ := a_pi_ok i4 hq
                obtain ⟨w, V, rfl, hw, hV, _⟩ := a_pi_ok hV hq2
                have bz := a_bd_ok i5 hz
                have bw := a_bd_ok i5 hw
                have hmin : a_i σ (a_I (min (a_bd A.2.2.1 x).1 (a_bd A.2.2.1 y).1) (min (a_bd A.2.2.1 x).2 (a_bd A.2.2.1 y).2)) (if z < w then z else w) := by
                  split
                  · rename_i hlt
                    rw [Int32.lt_iff_toInt_lt] at hlt
                    exact a_I_ok (by omega) (by omega)
                  · rename_i hlt
                    rw [Int32.lt_iff_toInt_lt] at hlt
                    exact a_I_ok (by omega) (by omega)
                obtain ⟨v2, h2, f1, f2⟩ := ih true (pc + 3) _ lv (.int (if z < w then z else w) :: V) h c3 ⟨i1, i2, i3, ⟨a_vi rfl hmin, hV⟩, i5, i6, i7⟩
                obtain ⟨d', rfl⟩ : ∃ d', d = d' + 1 := ⟨d - 1, by omega⟩
                refine ⟨v2, h2, xR_step hr rfl (o1 := (pc + 3, lv, .int (if z < w then z else w) :: V, h, 0, 0)) ?_ f1, f2⟩
                show (cond (Nat.ble (xm_cat V) 8) (some (pc + 3, lv, .int (if z < w then z else w) :: V, h, 0, 0)) none) = _
                rw [a_cat_ok hV, c2]
                rfl
              · cases he
            · cases he
          | false =>
            rw [hb2] at he
            dsimp only [cond_false] at he
            obtain ⟨hz, he⟩ := xw_bb he
            obtain ⟨C, hC, hc⟩ := List.any_eq_true.mp he
            exact call 1 C (Or.inr ⟨rfl, ⟨i, rfl⟩, hz⟩) hC hc
        case if_acmp k off =>
          cases k with
          | eq => exact plain he rfl
          | ne =>
            dsimp only at he
            split at he
            · rename_i t q hq
              split at he
              · rename_i t2 q2 hq2
                obtain ⟨g1, g2⟩ := xw_bb he
                obtain ⟨b2, V, rfl, hb2, hV⟩ := a_pr_ok i4 hq
                obtain ⟨b3, V, rfl, hb3, hV⟩ := a_pr_ok hV hq2
                have hc1 : (Nat.ble (b3 + 1) h.1.length && Nat.ble (b2 + 1) h.1.length) = true := by
                  rw [Nat.ble_eq.mpr hb3.1, Nat.ble_eq.mpr hb2.1]
                  rfl
                cases hbb : Nat.beq b3 b2 with
                | true =>
                  obtain ⟨v2, h2, f1, f2⟩ := ih true (pc + 3) (A.1, q2, A.2.2) lv V h g2 ⟨i1, i2, i3, hV, i5, i6, i7⟩
                  exact ⟨v2, h2, xR_step hr rfl (by simp only [xe_2, xe_1]; rw [hc1, hbb]; rfl) f1, f2⟩
                | false =>
                  obtain ⟨v2, h2, f1, f2⟩ := ih true r2 (A.1, q2, A.2.2) lv V h g1 ⟨i1, i2, i3, hV, i5, i6, i7⟩
                  exact ⟨v2, h2, xR_step hr rfl (by simp only [xe_2, xe_1]; rw [hc1, hbb]; rfl) f1, f2⟩
              · cases he
            · cases he
        all_goals first
          | exact plain he rfl
          | (cases he; done)
end XAP
