section XSU
set_option maxHeartbeats 4000000 in
set_option maxRecDepth 100000 in
/-- A CALL, ON THE MACHINE: behind it goes on whatever is known of the state there -/
theorem xe_call_ok {M : Nat → Option xm_M} {Cd : Nat → Nat → Option xr_R} {f : Nat} (hP : xP_ok M Cd) (hf : xS_ok M Cd f) {p : Program} {l : Launch} {e : Env} {R : Room} {s : State} {m : MethodId} {args : Array Value} {below : List Frame} {meth : Method} {c : Code} {H : Heap} {locs : List Loc} {Q : State → Prop} {ls : Array Slot} {D : va_G} {A : Nat → Prop} {ad sp : Nat → Nat} {cy : Nat → ClassId} {mi : xm_M} {pc d' : Nat} {lv : List (Nat × Value)} {st : List Value} {h : xh_H} {cells slots : Nat} {r : xr_R} {mj : xm_M} {As q : List Value} {v1 : Option Value} {h1 : xh_H} {mc ms : Nat}
    (hrb : xr_b mi.1 (xm_ini mi) mi.2.2.1 pc r = true) (hrc : xr_c M mi.1 r = true) (hcl : xe_cl M r st h = some (mj, As, q)) (hx1 : xe_x M Cd none f d' r.2.2.1 mj (0, lv_args 0 As, [], h, 0, 0) = some (v1, h1, mc, ms)) (X : xc_X p s m args meth c mi.2.2.1 mi.2.2.2.1 mi.1 (xm_ini mi) D cy A sp) (hR : d' + 1 ≤ R.frames ∧ 40 * (d' + 1) ≤ R.locals) (hcap0 : cells + mc ≤ R.cells ∧ slots + ms ≤ R.slots) (S : xc_S D cy ad sp A s mi.2.2.2.1 h lv H locs ls)
    (kk : ∀ (H1 : Heap) (locs1 : List Loc), xc_S D cy ad sp A s mi.2.2.2.1 h1 lv H1 locs1 ls → W p l e R s m args below meth c H1 locs1 (cells + mc) (slots + ms) Q (F0 m (pc + 3) ls ((v1.toList ++ q).map (xh_v ad sp)))) :
    W p l e R s m args below meth c H locs cells slots Q (F0 m pc ls (st.map (xh_v ad sp))) := by
  have X0 := X
  obtain ⟨hx, hb, hml, hown, hts, hK, hA, hO, hini⟩ := X
  obtain ⟨hat, hS, hl⟩ := S
  have hfree := xq_free hat hS hA
  have go : ∀ (H1 : Heap) (locs1 : List Loc), xh_at D cy ad A h1 H1 → va_S A s.heap H1 locs1 → W p l e R s m args below meth c H1 locs1 (cells + mc) (slots + ms) Q (F0 m (pc + 3) ls ((v1.map (xh_v ad sp)).toList ++ q.map (xh_v ad sp))) := by
    intro H1 locs1 a1 a2
    have K := kk H1 locs1 ⟨a1, a2, hl⟩
    rw [List.map_append] at K
    cases v1 with
    | none => exact K
    | some w => exact K
  have hcap : cells + mc ≤ R.cells ∧ slots + ms ≤ R.slots := hcap0
  unfold xe_cl at hcl
  split at hcl
  · cases hcl
  · rename_i mk hmk
    have hk3 : mk.2.2.2.2.2.1 ≠ 3 := by
      intro z
      rw [z] at hcl
      split at hcl
      · obtain ⟨_, z2⟩ := xw_bb (xw_c hcl).1
        cases (xw_bb z2).1
      · split at hcl
        · split at hcl
          · obtain ⟨_, z2⟩ := xw_bb (xw_c hcl).1
            cases (xw_bb z2).1
          · cases hcl
        · cases hcl
      · split at hcl
        · obtain ⟨_, z2⟩ := xw_bb (xw_c hcl).1
          cases (xw_bb z2).1
        · cases hcl
      · cases hcl
    have hok' := (hP.1 _ _ hmk).1 hk3
    have hgi := xG_in hok'
    have hok2 := hok'
    obtain ⟨j1, j2, j3, j4, j5, j6, j7, j8, j9⟩ := hok'
    have hRm : ∀ mc ms : Nat, (xm_rm d' mc ms).frames + 1 ≤ R.frames ∧ 8 + (mk.2.2.2.1 + 11) + (xm_rm d' mc ms).locals ≤ R.locals := by
      intro mc ms
      have a1 := hR.1
      have a2 := hR.2
      refine ⟨a1, ?_⟩
      show 8 + (mk.2.2.2.1 + 11) + 40 * d' ≤ R.locals
      omega
    split at hcl
    · rename_i idx hi1
      obtain ⟨b1, b2⟩ := xw_c hcl
      cases b2
      obtain ⟨b0, b1⟩ := xw_bb b1
      obtain ⟨b1, b3⟩ := xw_bb b1
      obtain ⟨b3, b4⟩ := xw_bb b3
      obtain ⟨b4, b5⟩ := xw_bb b4
      replace b0 := xw_beq b0
      replace b1 := xw_beq b1
      replace b3 := xw_beq b3
      replace b4 := xw_ble b4
      replace b5 := xw_ble b5
      have hlk : Cond.methodLink mi.1 idx mj.2.1 ∈ xG := by
        unfold xr_c at hrc
        rw [hi1] at hrc
        dsimp only at hrc
        rw [b0] at hrc
        try dsimp only at hrc
        rw [hmk] at hrc
        exact xw_in hrc
      have hd := xr_len3 hrb (by rw [hi1]; rfl) (by rw [hi1]; intro a b d e z; cases z)
      rw [hi1] at hd
      have hM := xe_met (D := D) (cy := cy) (ad := ad) (sp := sp) hP hf hx1 hmk hok2 b5 l H.size
      have hst : st.map (xh_v ad sp) = ((st.take mj.2.2.2.2.2.2.1).reverse.map (xh_v ad sp)).reverse ++ (st.drop mj.2.2.2.2.2.2.1).map (xh_v ad sp) := by
        rw [← List.map_reverse, List.reverse_reverse, ← List.map_append, List.take_append_drop]
      refine xa_call (va_runS (As := (st.take mj.2.2.2.2.2.2.1).reverse.map (xh_v ad sp)) ⟨hx, hb, hml, hown, hts⟩ hM ⟨callB_of mj.2.2.2.2.2.2.1 hts hgi rfl rfl rfl (hts _ j2) (hts _ hlk) j5 (hRm mc ms), hts _ (j8 b1)⟩ ⟨xq_blind _ _ _, xq_pre X0 hat hS⟩ rfl (by rw [List.length_map, List.length_reverse]; exact b3) hl.1 hst (lv_room ?_) hd hcap) hS hfree go
      show xm_cat ((st.drop mj.2.2.2.2.2.2.1).map (xh_v ad sp)) ≤ 8
      rw [xm_cat_m]
      exact b4
    · rename_i idx hi1
      split at hcl
      · rename_i bb q2 hdrop
        split at hcl
        · rename_i ci hci
          obtain ⟨b1, b2⟩ := xw_c hcl
          cases b2
          obtain ⟨b0, b1⟩ := xw_bb b1
          obtain ⟨b1, b3⟩ := xw_bb b1
          obtain ⟨b3, b4⟩ := xw_bb b3
          obtain ⟨b4, b5⟩ := xw_bb b4
          replace b0 := xw_beq b0
          replace b1 := xw_beq b1
          replace b3 := xw_beq b3
          replace b4 := xw_ble b4
          replace b5 := xw_ble b5
          have hlk : Cond.methodLink mi.1 idx mj.2.1 ∈ xG := by
            unfold xr_c at hrc
            rw [hi1] at hrc
            dsimp only at hrc
            split at hrc
            · rw [hmk] at hrc
              cases (xw_bb hrc).2
            · rw [hmk] at hrc
              cases (xw_bb hrc).2
            · rw [hmk] at hrc
              exact xw_in hrc
          have hd := xr_len3 hrb (by rw [hi1]; rfl) (by rw [hi1]; intro a b d e z; cases z)
          rw [hi1] at hd
          have hM := xe_met (D := D) (cy := cy) (ad := ad) (sp := sp) hP hf hx1 hmk hok2 b5 l H.size
          have hst : st.map (xh_v ad sp) = ((st.take mj.2.2.2.2.2.2.1).reverse.map (xh_v ad sp)).reverse ++ .ref (ad bb) :: q.map (xh_v ad sp) := by
            rw [← List.map_reverse, List.reverse_reverse]
            have : st = st.take mj.2.2.2.2.2.2.1 ++ .ref bb :: q := by rw [← hdrop, List.take_append_drop]
            conv => lhs; rw [this]
            rw [List.map_append]
            rfl
          obtain ⟨T, N, hv⟩ := (j7 b1).2.2
          rw [← b0] at hv
          refine xa_call (va_runV (C := mj.2.1.cls) (b := ad bb) (As := (st.take mj.2.2.2.2.2.2.1).reverse.map (xh_v ad sp)) ⟨hx, hb, hml, hown, hts⟩ hM ⟨callB_of mj.2.2.2.2.2.2.1 hts hgi rfl rfl rfl (hts _ j2) (hts _ hlk) j5 (hRm mc ms), hts _ (j7 b1).1, hts _ (j7 b1).2.1⟩ ⟨xq_blind _ _ _, va_recv hK hat.1 hv (xh_ws_at hci), xq_pre X0 hat hS⟩ rfl (by rw [List.length_map, List.length_reverse]; exact b3) hl.1 hst (lv_room ?_) hd hcap) hS hfree go
          show xm_cat (q.map (xh_v ad sp)) ≤ 8
          rw [xm_cat_m]
          exact b4
        · cases hcl
      · cases hcl
    · rename_i idx hi1
      split at hcl
      · rename_i bb q2 hdrop
        obtain ⟨b1, b2⟩ := xw_c hcl
        cases b2
        obtain ⟨b0, b1⟩ := xw_bb b1
        obtain ⟨b1, b3⟩ := xw_bb b1
        obtain ⟨b3, b4⟩ := xw_bb b3
        obtain ⟨b4, b5⟩ := xw_bb b4
        replace b0 := xw_beq b0
        replace b1 := xw_beq b1
        replace b3 := xw_beq b3
        replace b4 := xw_ble b4
        replace b5 := xw_ble b5
        have hlk : Cond.methodLink mi.1 idx mj.2.1 ∈ xG := by
          unfold xr_c at hrc
          rw [hi1] at hrc
          dsimp only at hrc
          rw [b0] at hrc
          try dsimp only at hrc
          rw [hmk] at hrc
          exact xw_in hrc
        have hd := xr_len3 hrb (by rw [hi1]; rfl) (by rw [hi1]; intro a b d e z; cases z)
        rw [hi1] at hd
        have hM := xe_met (D := D) (cy := cy) (ad := ad) (sp := sp) hP hf hx1 hmk hok2 b5 l H.size
        have hst : st.map (xh_v ad sp) = ((st.take mj.2.2.2.2.2.2.1).reverse.map (xh_v ad sp)).reverse ++ .ref (ad bb) :: q.map (xh_v ad sp) := by
          rw [← List.map_reverse, List.reverse_reverse]
          have : st = st.take mj.2.2.2.2.2.2.1 ++ .ref bb :: q := by rw [← hdrop, List.take_append_drop]
          conv => lhs; rw [this]
          rw [List.map_append]
          rfl
        obtain ⟨n1, n2, n3⟩ := j9 b1
        unfold xq_M at hM
        rw [n3] at hM hgi
        have hpre : PreS s H (va_Pc ((.ref bb :: (st.take mj.2.2.2.2.2.2.1).reverse).map (xh_v ad sp)) (xq_P D cy ad sp h H.size)) (.ref (ad bb) :: (st.take mj.2.2.2.2.2.2.1).reverse.map (xh_v ad sp)) := ⟨xq_blind _ _ _, xq_pre X0 hat hS⟩
        refine xa_call (va_runI (b := ad bb) (As := (st.take mj.2.2.2.2.2.2.1).reverse.map (xh_v ad sp)) ⟨hx, hb, hml, hown, hts⟩ hM ⟨callB_of mj.2.2.2.2.2.2.1 hts hgi rfl rfl rfl (hts _ j2) (hts _ hlk) j5 (hRm mc ms), n2, hts _ n1⟩ hpre rfl (by rw [List.length_map, List.length_reverse]; exact b3) hl.1 hst (lv_room ?_) hd hcap) hS hfree go
        show xm_cat (q.map (xh_v ad sp)) ≤ 8
        rw [xm_cat_m]
        exact b4
      · cases hcl
    · cases hcl
end XSU
