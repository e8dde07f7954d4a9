section XALL
variable {p : Program} {l : Launch} {e : Env} {R : Room} {s : State} {m : MethodId} {args : Array Value} {below : List Frame} {meth : Method} {c : Code} {H : Heap} {locs : List Loc} {Q : State → Prop}
variable {cc : ByteArray} {ls : Array Slot} {D : va_G} {A : Nat → Prop} {ad sp : Nat → Nat} {cy : Nat → ClassId} {nL : Nat} {own : String} {ini : Bool}
theorem xr_len1 {own : String} {ini : Bool} {cc : ByteArray} {pc : Nat} {r : xr_R} (hr : xr_b own ini cc pc r = true) (hi : xe_isr r.1 = true) : decode cc pc = .ok (r.1, 1) := by
  obtain ⟨hd, hr⟩ := xw_bb hr
  replace hd := of_decide_eq_true hd
  obtain ⟨hlen, _⟩ := xw_bb hr
  obtain ⟨i, len, ra⟩ := r
  dsimp only at hd hlen hi
  cases i <;> first | (cases hi; done) | (cases xw_beq hlen; exact hd)
theorem xe_o_ok {scr : Option (Nat × (Nat → Int32))} {M : Nat → Option xm_M} {r : xr_R} {pc : Nat} {lv : List (Nat × Value)} {st : List Value} {h : xh_H} {cells slots : Nat} {pc' : Nat} {lv' : List (Nat × Value)} {st' : List Value} {h' : xh_H} {cells' slots' : Nat}
    (X : xc_X p s m args meth c cc nL own ini D cy A sp) (hr : xr_b own ini cc pc r = true) (hrc : xr_c M own r = true) (he : xe_o scr r pc lv st h cells slots = some (pc', lv', st', h', cells', slots')) (hscr : ∀ L xs, scr = some (L, xs) → va_X (sp 0) L xs s s.heap ∧ sp 0 < s.heap.size ∧ ¬ A (sp 0)) (S : xc_S D cy ad sp A s nL h lv H locs ls)
    (kk : ∀ (H1 : Heap) (locs1 : List Loc) (ls1 : Array Slot), xc_S D cy ad sp A s nL h' lv' H1 locs1 ls1 → W p l e R s m args below meth c H1 locs1 cells' slots' Q (F0 m pc' ls1 (st'.map (xh_v ad sp)))) :
    W p l e R s m args below meth c H locs cells slots Q (F0 m pc ls (st.map (xh_v ad sp))) := by
  obtain ⟨hx, hb, hml, hown, hts, hK, hA, hO, hini⟩ := X
  obtain ⟨hat, hS, hl⟩ := S
  obtain ⟨hd, hr⟩ := xw_bb hr
  replace hd := of_decide_eq_true hd
  obtain ⟨hlen, hw⟩ := xw_bb hr
  clear hr
  obtain ⟨i, len, ra, rb, rK, ri⟩ := r
  dsimp only at hd hlen
  cases i with
  | getstatic idx =>
    cases xw_beq hlen
    cases he
    exact va_gets hx hb hO.2.2.1 hS hown (hts _ (xw_in hrc)) (fun _ h9 => h9) hd (kk _ _ _ ⟨hat, hS, hl⟩)
  | laload =>
    cases xw_beq hlen
    match st, he with
    | .int j :: .float u :: q, he =>
      obtain ⟨h1, h2⟩ := xw_c he
      obtain ⟨h1, h3⟩ := xw_bb h1
      cases h2
      rw [show List.map (xh_v ad sp) (.int j :: .float u :: q) = .int j :: .ref (sp u.toNat) :: q.map (xh_v ad sp) from rfl, xw_beq h1]
      exact va_tl hx hb hO.2.2.2.1 hS (xe_in_v h3) rfl hd (kk _ _ _ ⟨hat, hS, hl⟩)
  | iaload =>
    cases xw_beq hlen
    match st, he with
    | .int j :: .float u :: q, he =>
      match scr, he, hscr with
      | some (L, xs), he, hscr =>
        obtain ⟨h1, h2⟩ := xw_c he
        obtain ⟨h1, h3⟩ := xw_bb h1
        cases h2
        obtain ⟨k1, k2, k3⟩ := hscr L xs rfl
        rw [show List.map (xh_v ad sp) (.int j :: .float u :: q) = .int j :: .ref (sp u.toNat) :: q.map (xh_v ad sp) from rfl, xw_beq h1]
        exact va_sld hx hb k1 k2 k3 hS (xe_in_v h3) hd (kk _ _ _ ⟨hat, hS, hl⟩)
  | arraylength =>
    cases xw_beq hlen
    match st, he with
    | .float u :: q, he =>
      match scr, he, hscr with
      | some (L, xs), he, hscr =>
        obtain ⟨h1, h2⟩ := xw_c he
        cases h2
        obtain ⟨k1, k2, k3⟩ := hscr L xs rfl
        rw [show List.map (xh_v ad sp) (.float u :: q) = .ref (sp u.toNat) :: q.map (xh_v ad sp) from rfl, xw_beq h1]
        exact va_slen hx hb k1 k2 k3 hS hd (kk _ _ _ ⟨hat, hS, hl⟩)
  | _ => cases he
theorem xe_oi_ok {M : Nat → Option xm_M} {r : xr_R} {d pc : Nat} {lv : List (Nat × Value)} {st : List Value} {h : xh_H} {cells slots : Nat} {pc' : Nat} {lv' : List (Nat × Value)} {st' : List Value} {h' : xh_H} {cells' slots' : Nat} (hob : (Cond.instanceMethod objectInit ∈ xG ∧ Cond.code objectInit ⟨#[0xb1]⟩ 1 none ∈ xG) ∧ Cond.static Lib.Math.min.name ∈ xG ∧ Cond.initialized "java/lang/Math" ∈ xG ∧ Cond.code Lib.Math.min.name Lib.Math.min.code 2 (some .int) ∈ xG)
    (X : xc_X p s m args meth c cc nL own ini D cy A sp) (hr : xr_b own ini cc pc r = true) (hrc : xr_c M own r = true) (he : xe_oi r pc d lv st h cells slots = some (pc', lv', st', h', cells', slots')) (hR : d ≤ R.frames ∧ 40 * d ≤ R.locals) (hcap : cells' ≤ R.cells ∧ slots' ≤ R.slots) (S : xc_S D cy ad sp A s nL h lv H locs ls)
    (kk : ∀ (H1 : Heap) (locs1 : List Loc) (ls1 : Array Slot), xc_S D cy ad sp A s nL h' lv' H1 locs1 ls1 → W p l e R s m args below meth c H1 locs1 cells' slots' Q (F0 m pc' ls1 (st'.map (xh_v ad sp)))) :
    W p l e R s m args below meth c H locs cells slots Q (F0 m pc ls (st.map (xh_v ad sp))) := by
  obtain ⟨hx, hb, hml, hown, hts, hK, hA, hO, hini⟩ := X
  obtain ⟨hat, hS, hl⟩ := S
  obtain ⟨hd, hr⟩ := xw_bb hr
  replace hd := of_decide_eq_true hd
  obtain ⟨hlen, hw⟩ := xw_bb hr
  clear hr
  obtain ⟨i, len, ra, rb, rK, ri⟩ := r
  dsimp only at hd hlen
  cases i with
  | invokevirtual idx =>
    cases xw_beq hlen
    have X0 : xc_X p s m args meth c cc nL own ini D cy A sp := ⟨hx, hb, hml, hown, hts, hK, hA, hO, hini⟩
    match rb, d, st, he, hrc, hd, hR with
    | 3, d + 2, .float u :: q, he, hrc, hd, hR =>
      obtain ⟨h1, h2⟩ := xw_c he
      cases h2
      obtain ⟨h1, h3⟩ := xw_bb h1
      obtain ⟨g1, g2⟩ := xw_bb h1
      have g1 := xw_ble g1
      have g2 := xw_ble g2
      have h3 := xw_ble h3
      have hu : u.toNat = (u.toNat - 2) + 2 := by omega
      exact js_callV (Bs := []) (i := u.toNat - 2) (n := 0) (d := 1) X0 ⟨hat, hS, hl⟩ (by omega) hu (js_length (by omega) hu h H.size 0) rfl jw_c_len jw_n_len jw_s_len (xw_in (xw_bb hrc).1) (by decide) rfl ⟨by omega, by omega⟩ hcap h3 hd (fun H1 locs1 S1 => kk H1 locs1 ls S1)
    | 4, d + 4, .int k :: .float u :: q, he, hrc, hd, hR =>
      obtain ⟨h1, h2⟩ := xw_c he
      cases h2
      obtain ⟨h1, h3⟩ := xw_bb h1
      obtain ⟨h4, h3⟩ := xw_bb h3
      obtain ⟨g1, g2⟩ := xw_bb h1
      have g1 := xw_ble g1
      have g2 := xw_ble g2
      have h3 := xw_ble h3
      have hu : u.toNat = (u.toNat - 2) + 2 := by omega
      exact js_callV (Bs := [.int k]) (i := u.toNat - 2) (n := 1) (d := 3) X0 ⟨hat, hS, hl⟩ (by omega) hu (js_charAt (by omega) hu h4 h H.size 0) rfl jw_c_cha jw_n_cha jw_s_cha (xw_in (xw_bb hrc).1) (by decide) rfl ⟨by omega, by omega⟩ hcap h3 hd (fun H1 locs1 S1 => kk H1 locs1 ls S1)
    | 0, _, _, he, _, _, _ => cases he
    | 1, _, _, he, _, _, _ => cases he
    | 2, _, _, he, _, _, _ => cases he
    | 3, 0, _, he, _, _, _ => cases he
    | 3, 1, _, he, _, _, _ => cases he
    | 4, 0, _, he, _, _, _ => cases he
    | 4, 1, _, he, _, _, _ => cases he
    | 4, 2, _, he, _, _, _ => cases he
    | 4, 3, _, he, _, _, _ => cases he
    | n + 5, _, _, he, _, _, _ => cases he
  | invokespecial idx =>
    cases xw_beq hlen
    match rb, d, st, he, hrc, hd, hR with
    | 1, d + 1, .ref a :: q, he, hrc, hd, hR =>
      obtain ⟨h1, h2⟩ := xw_c he
      cases h2
      have h1 := xw_ble h1
      refine W.objInit hx hb hown (hts _ (xw_in hrc)) (hts _ hob.1.1) (hts _ hob.1.2) rfl (by rw [hml]; exact hl.1) rfl hd (by omega) ?_ (kk _ _ _ ⟨hat, hS, hl⟩)
      have h3 : xm_cat (st'.map (xh_v ad sp)) ≤ 8 := by rw [xm_cat_m]; exact h1
      show 2 * 0 + xm_cat (st'.map (xh_v ad sp)) + 12 ≤ R.locals
      omega
    | 0, _, _, he, _, _, _ => cases he
    | 1, 0, _, he, _, _, _ => cases he
    | n + 2, _, _, he, _, _, _ => cases he
  | invokestatic idx =>
    cases xw_beq hlen
    match rb, d, st, he, hrc, hd, hR with
    | 2, d + 1, .int y :: .int x :: q, he, hrc, hd, hR =>
      obtain ⟨h1, h2⟩ := xw_c he
      cases h2
      have h1 := xw_ble h1
      have h3 : xm_cat (q.map (xh_v ad sp)) ≤ 8 := by rw [xm_cat_m]; exact h1
      refine va_mmin hx hb (by rw [hml]; exact hl.1.symm) hown (hts _ (xw_in hrc)) (hts _ hob.2.1) (hts _ hob.2.2.1) (hts _ hob.2.2.2) (by omega) ?_ hcap.1 hcap.2 hd (kk _ _ _ ⟨hat, hS, hl⟩)
      show xm_cat (q.map (xh_v ad sp)) + 13 ≤ R.locals
      omega
    | 0, _, _, he, _, _, _ => cases he
    | 1, _, _, he, _, _, _ => cases he
    | 2, 0, _, he, _, _, _ => cases he
    | n + 3, _, _, he, _, _, _ => cases he
  | _ => cases he
theorem xe_2_ok {scr : Option (Nat × (Nat → Int32))} {M : Nat → Option xm_M} {r : xr_R} {d pc : Nat} {lv : List (Nat × Value)} {st : List Value} {h : xh_H} {cells slots : Nat} {pc' : Nat} {lv' : List (Nat × Value)} {st' : List Value} {h' : xh_H} {cells' slots' : Nat} (hob : (Cond.instanceMethod objectInit ∈ xG ∧ Cond.code objectInit ⟨#[0xb1]⟩ 1 none ∈ xG) ∧ Cond.static Lib.Math.min.name ∈ xG ∧ Cond.initialized "java/lang/Math" ∈ xG ∧ Cond.code Lib.Math.min.name Lib.Math.min.code 2 (some .int) ∈ xG)
    (X : xc_X p s m args meth c cc nL own ini D cy A sp) (hr : xr_b own ini cc pc r = true) (hrc : xr_c M own r = true) (he : xe_2 scr nL r d pc lv st h cells slots = some (pc', lv', st', h', cells', slots')) (hR : d ≤ R.frames ∧ 40 * d ≤ R.locals) (hcap : cells' ≤ R.cells ∧ slots' ≤ R.slots) (hscr : ∀ L xs, scr = some (L, xs) → va_X (sp 0) L xs s s.heap ∧ sp 0 < s.heap.size ∧ ¬ A (sp 0)) (S : xc_S D cy ad sp A s nL h lv H locs ls)
    (kk : ∀ (H1 : Heap) (locs1 : List Loc) (ls1 : Array Slot), xc_S D cy ad sp A s nL h' lv' H1 locs1 ls1 → W p l e R s m args below meth c H1 locs1 cells' slots' Q (F0 m pc' ls1 (st'.map (xh_v ad sp)))) :
    W p l e R s m args below meth c H locs cells slots Q (F0 m pc ls (st.map (xh_v ad sp))) := by
  unfold xe_2 at he
  split at he
  · rename_i o h1
    cases he
    exact xe_1_ok X hr h1 hcap S kk
  · split at he
    · rename_i o h1
      cases he
      exact xe_o_ok X hr hrc h1 hscr S kk
    · exact xe_oi_ok hob X hr hrc he hR hcap S kk
theorem xr_len3 {own : String} {ini : Bool} {cc : ByteArray} {pc : Nat} {r : xr_R} (hr : xr_b own ini cc pc r = true) (hl : xr_len r.1 = 3) (ht : ∀ a b d e, r.1 ≠ .tableswitch a b d e) : decode cc pc = .ok (r.1, 3) := by
  obtain ⟨hd, hr⟩ := xw_bb hr
  replace hd := of_decide_eq_true hd
  obtain ⟨hlen, _⟩ := xw_bb hr
  obtain ⟨i, len, ra⟩ := r
  dsimp only at hd hlen hl ht
  cases i <;> first | (exact absurd rfl (ht _ _ _ _)) | (rw [← hl, ← xw_beq hlen]; exact hd)
set_option maxHeartbeats 4000000 in
set_option maxRecDepth 100000 in
/-- EVERY RUN, ON THE MACHINE -/
theorem xS_all {M : Nat → Option xm_M} {Cd : Nat → Nat → Option xr_R} (hP : xP_ok M Cd) : ∀ f : Nat, xS_ok M Cd f := by
  intro f
  induction f with
  | zero =>
    intro p l e R s m args below meth c H locs Q ls D A ad sp cy scr d mid mi pc lv st h cells slots v h' c' s' he
    cases he
  | succ f ih =>
    intro p l e R s m args below meth c H locs Q ls D A ad sp cy scr d mid mi pc lv st h cells slots v h' c' s' he hm X hR hscr S kk
    obtain ⟨_, hrows⟩ := hP.1 mid mi hm
    unfold xe_x at he
    split at he
    · cases he
    · rename_i r hr
      obtain ⟨hrb, hrc⟩ := hrows pc r hr
      cases hi : xe_isr r.1 with
      | true =>
        rw [hi] at he
        obtain ⟨v1, h1, h2⟩ := Option.map_eq_some_iff.mp (show Option.map _ _ = _ from he)
        cases h2
        exact kk _ _ _ _ _ _ _ S (xr_len1 hrb hi) h1
      | false =>
        rw [hi] at he
        simp only [cond_false] at he
        split at he
        · rename_i o ho
          obtain ⟨pc1, lv1, st1, h1, c1, s1⟩ := o
          have hmn := xe_x_mono _ _ _ _ _ _ _ _ _ _ _ _ _ _ _ he
          refine xe_2_ok hP.2 X hrb hrc ho ⟨hR.1, hR.2.1⟩ ⟨Nat.le_trans hmn.1 hR.2.2.1, Nat.le_trans hmn.2 hR.2.2.2⟩ hscr S ?_
          intro H1 locs1 ls1 S1
          exact ih p l e R s m args below meth c H1 locs1 Q ls1 D A ad sp cy scr d mid mi pc1 lv1 st1 h1 c1 s1 v h' c' s' he hm X hR hscr S1 kk
        · split at he
          · cases he
          · rename_i d' hx0
            split at he
            · cases he
            · rename_i mj As q hcl
              split at he
              · cases he
              · rename_i v1 h1 mc ms hx1
                have hmn := xe_x_mono _ _ _ _ _ _ _ _ _ _ _ _ _ _ _ he
                have X0 := X
                obtain ⟨hx, hb, hml, hown, hts, hK, hA, hO, hini⟩ := X
                obtain ⟨hat, hS, hl⟩ := S
                have hfree := xq_free hat hS hA
                have go : ∀ (H1 : Heap) (locs1 : List Loc), xh_at D cy ad A h1 H1 → va_S A s.heap H1 locs1 → W p l e R s m args below meth c H1 locs1 (cells + mc) (slots + ms) Q (F0 m (pc + 3) ls ((v1.map (xh_v ad sp)).toList ++ q.map (xh_v ad sp))) := by
                  intro H1 locs1 a1 a2
                  have K := ih p l e R s m args below meth c H1 locs1 Q ls D A ad sp cy scr (d' + 1) mid mi (pc + 3) lv (v1.toList ++ q) h1 (cells + mc) (slots + ms) v h' c' s' he hm X0 hR hscr ⟨a1, a2, hl⟩ kk
                  rw [List.map_append] at K
                  cases v1 with
                  | none => exact K
                  | some w => exact K
                have hcap : cells + mc ≤ R.cells ∧ slots + ms ≤ R.slots := ⟨Nat.le_trans hmn.1 hR.2.2.1, Nat.le_trans hmn.2 hR.2.2.2⟩
                unfold xe_cl at hcl
                split at hcl
                · cases hcl
                · rename_i mk hmk
                  have hk3 : mk.2.2.2.2.2.1 ≠ 3 := by
                    intro z
                    rw [z] at hcl
                    split at hcl
                    · obtain ⟨_, z2⟩ := xw_bb (xw_c hcl).1
                      cases (xw_bb z2).1
                    · split at hcl
                      · split at hcl
                        · obtain ⟨_, z2⟩ := xw_bb (xw_c hcl).1
                          cases (xw_bb z2).1
                        · cases hcl
                      · cases hcl
                    · split at hcl
                      · obtain ⟨_, z2⟩ := xw_bb (xw_c hcl).1
                        cases (xw_bb z2).1
                      · cases hcl
                    · cases hcl
                  have hok' := (hP.1 _ _ hmk).1 hk3
                  have hgi := xG_in hok'
                  have hok2 := hok'
                  obtain ⟨j1, j2, j3, j4, j5, j6, j7, j8, j9⟩ := hok'
                  have hRm : ∀ mc ms : Nat, (xm_rm d' mc ms).frames + 1 ≤ R.frames ∧ 8 + (mk.2.2.2.1 + 11) + (xm_rm d' mc ms).locals ≤ R.locals := by
                    intro mc ms
                    have a1 := hR.1
                    have a2 := hR.2.1
                    refine ⟨a1, ?_⟩
                    show 8 + (mk.2.2.2.1 + 11) + 40 * d' ≤ R.locals
                    omega
                  split at hcl
                  · rename_i idx hi1
                    obtain ⟨b1, b2⟩ := xw_c hcl
                    cases b2
                    obtain ⟨b0, b1⟩ := xw_bb b1
                    obtain ⟨b1, b3⟩ := xw_bb b1
                    obtain ⟨b3, b4⟩ := xw_bb b3
                    obtain ⟨b4, b5⟩ := xw_bb b4
                    replace b0 := xw_beq b0
                    replace b1 := xw_beq b1
                    replace b3 := xw_beq b3
                    replace b4 := xw_ble b4
                    replace b5 := xw_ble b5
                    have hlk : Cond.methodLink mi.1 idx mj.2.1 ∈ xG := by
                      unfold xr_c at hrc
                      rw [hi1] at hrc
                      dsimp only at hrc
                      rw [b0] at hrc
                      try dsimp only at hrc
                      rw [hmk] at hrc
                      exact xw_in hrc
                    have hd := xr_len3 hrb (by rw [hi1]; rfl) (by rw [hi1]; intro a b d e z; cases z)
                    rw [hi1] at hd
                    have hM := xe_met (D := D) (cy := cy) (ad := ad) (sp := sp) hP ih hx1 hmk hok2 b5 l H.size
                    have hst : st.map (xh_v ad sp) = ((st.take mj.2.2.2.2.2.2.1).reverse.map (xh_v ad sp)).reverse ++ (st.drop mj.2.2.2.2.2.2.1).map (xh_v ad sp) := by
                      rw [← List.map_reverse, List.reverse_reverse, ← List.map_append, List.take_append_drop]
                    refine xa_call (va_runS (As := (st.take mj.2.2.2.2.2.2.1).reverse.map (xh_v ad sp)) ⟨hx, hb, hml, hown, hts⟩ hM ⟨callB_of mj.2.2.2.2.2.2.1 hts hgi rfl rfl rfl (hts _ j2) (hts _ hlk) j5 (hRm mc ms), hts _ (j8 b1)⟩ ⟨xq_blind _ _ _, xq_pre X0 hat hS⟩ rfl (by rw [List.length_map, List.length_reverse]; exact b3) hl.1 hst (lv_room ?_) hd hcap) hS hfree go
                    show xm_cat ((st.drop mj.2.2.2.2.2.2.1).map (xh_v ad sp)) ≤ 8
                    rw [xm_cat_m]
                    exact b4
                  · rename_i idx hi1
                    split at hcl
                    · rename_i bb q2 hdrop
                      split at hcl
                      · rename_i ci hci
                        obtain ⟨b1, b2⟩ := xw_c hcl
                        cases b2
                        obtain ⟨b0, b1⟩ := xw_bb b1
                        obtain ⟨b1, b3⟩ := xw_bb b1
                        obtain ⟨b3, b4⟩ := xw_bb b3
                        obtain ⟨b4, b5⟩ := xw_bb b4
                        replace b0 := xw_beq b0
                        replace b1 := xw_beq b1
                        replace b3 := xw_beq b3
                        replace b4 := xw_ble b4
                        replace b5 := xw_ble b5
                        have hlk : Cond.methodLink mi.1 idx mj.2.1 ∈ xG := by
                          unfold xr_c at hrc
                          rw [hi1] at hrc
                          dsimp only at hrc
                          split at hrc
                          · rw [hmk] at hrc
                            cases (xw_bb hrc).2
                          · rw [hmk] at hrc
                            cases (xw_bb hrc).2
                          · rw [hmk] at hrc
                            exact xw_in hrc
                        have hd := xr_len3 hrb (by rw [hi1]; rfl) (by rw [hi1]; intro a b d e z; cases z)
                        rw [hi1] at hd
                        have hM := xe_met (D := D) (cy := cy) (ad := ad) (sp := sp) hP ih hx1 hmk hok2 b5 l H.size
                        have hst : st.map (xh_v ad sp) = ((st.take mj.2.2.2.2.2.2.1).reverse.map (xh_v ad sp)).reverse ++ .ref (ad bb) :: q.map (xh_v ad sp) := by
                          rw [← List.map_reverse, List.reverse_reverse]
                          have : st = st.take mj.2.2.2.2.2.2.1 ++ .ref bb :: q := by rw [← hdrop, List.take_append_drop]
                          conv => lhs; rw [this]
                          rw [List.map_append]
                          rfl
                        obtain ⟨T, N, hv⟩ := (j7 b1).2.2
                        rw [← b0] at hv
                        refine xa_call (va_runV (C := mj.2.1.cls) (b := ad bb) (As := (st.take mj.2.2.2.2.2.2.1).reverse.map (xh_v ad sp)) ⟨hx, hb, hml, hown, hts⟩ hM ⟨callB_of mj.2.2.2.2.2.2.1 hts hgi rfl rfl rfl (hts _ j2) (hts _ hlk) j5 (hRm mc ms), hts _ (j7 b1).1, hts _ (j7 b1).2.1⟩ ⟨xq_blind _ _ _, va_recv hK hat.1 hv (xh_ws_at hci), xq_pre X0 hat hS⟩ rfl (by rw [List.length_map, List.length_reverse]; exact b3) hl.1 hst (lv_room ?_) hd hcap) hS hfree go
                        show xm_cat (q.map (xh_v ad sp)) ≤ 8
                        rw [xm_cat_m]
                        exact b4
                      · cases hcl
                    · cases hcl
                  · rename_i idx hi1
                    split at hcl
                    · rename_i bb q2 hdrop
                      obtain ⟨b1, b2⟩ := xw_c hcl
                      cases b2
                      obtain ⟨b0, b1⟩ := xw_bb b1
                      obtain ⟨b1, b3⟩ := xw_bb b1
                      obtain ⟨b3, b4⟩ := xw_bb b3
                      obtain ⟨b4, b5⟩ := xw_bb b4
                      replace b0 := xw_beq b0
                      replace b1 := xw_beq b1
                      replace b3 := xw_beq b3
                      replace b4 := xw_ble b4
                      replace b5 := xw_ble b5
                      have hlk : Cond.methodLink mi.1 idx mj.2.1 ∈ xG := by
                        unfold xr_c at hrc
                        rw [hi1] at hrc
                        dsimp only at hrc
                        rw [b0] at hrc
                        try dsimp only at hrc
                        rw [hmk] at hrc
                        exact xw_in hrc
                      have hd := xr_len3 hrb (by rw [hi1]; rfl) (by rw [hi1]; intro a b d e z; cases z)
                      rw [hi1] at hd
                      have hM := xe_met (D := D) (cy := cy) (ad := ad) (sp := sp) hP ih hx1 hmk hok2 b5 l H.size
                      have hst : st.map (xh_v ad sp) = ((st.take mj.2.2.2.2.2.2.1).reverse.map (xh_v ad sp)).reverse ++ .ref (ad bb) :: q.map (xh_v ad sp) := by
                        rw [← List.map_reverse, List.reverse_reverse]
                        have : st = st.take mj.2.2.2.2.2.2.1 ++ .ref bb :: q := by rw [← hdrop, List.take_append_drop]
                        conv => lhs; rw [this]
                        rw [List.map_append]
                        rfl
                      obtain ⟨n1, n2, n3⟩ := j9 b1
                      unfold xq_M at hM
                      rw [n3] at hM hgi
                      have hpre : PreS s H (va_Pc ((.ref bb :: (st.take mj.2.2.2.2.2.2.1).reverse).map (xh_v ad sp)) (xq_P D cy ad sp h H.size)) (.ref (ad bb) :: (st.take mj.2.2.2.2.2.2.1).reverse.map (xh_v ad sp)) := ⟨xq_blind _ _ _, xq_pre X0 hat hS⟩
                      refine xa_call (va_runI (b := ad bb) (As := (st.take mj.2.2.2.2.2.2.1).reverse.map (xh_v ad sp)) ⟨hx, hb, hml, hown, hts⟩ hM ⟨callB_of mj.2.2.2.2.2.2.1 hts hgi rfl rfl rfl (hts _ j2) (hts _ hlk) j5 (hRm mc ms), n2, hts _ n1⟩ hpre rfl (by rw [List.length_map, List.length_reverse]; exact b3) hl.1 hst (lv_room ?_) hd hcap) hS hfree go
                      show xm_cat (q.map (xh_v ad sp)) ≤ 8
                      rw [xm_cat_m]
                      exact b4
                    · cases hcl
                  · cases hcl
end XALL
