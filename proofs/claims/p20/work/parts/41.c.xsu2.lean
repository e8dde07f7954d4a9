section XSV
theorem xe_u_mono {M : Nat → Option xm_M} {Cd : Nat → Nat → Option xr_R} {scr : Option (Nat × (Nat → Int32))} {stop mid : Nat} {mi : xm_M} : ∀ (f d : Nat) (pc : Nat) (lv : List (Nat × Value)) (st : List Value) (h : xh_H) (c s : Nat) (pc' : Nat) (lv' : List (Nat × Value)) (st' : List Value) (h' : xh_H) (c' s' : Nat), xe_u M Cd scr stop f d mid mi (pc, lv, st, h, c, s) = some (pc', lv', st', h', c', s') → c ≤ c' ∧ s ≤ s' := by
  intro f
  induction f with
  | zero => intro d pc lv st h c s pc' lv' st' h' c' s' he; cases he
  | succ f ih =>
    intro d pc lv st h c s pc' lv' st' h' c' s' he
    unfold xe_u at he
    cases hb : Nat.beq pc stop with
    | true => rw [hb] at he; cases he; exact ⟨Nat.le_refl _, Nat.le_refl _⟩
    | false =>
      rw [hb] at he
      simp only [cond_false] at he
      split at he
      · cases he
      · rename_i r hr
        cases hi : xe_isr r.1 with
        | true => rw [hi] at he; cases he
        | false =>
          rw [hi] at he
          simp only [cond_false] at he
          split at he
          · rename_i o ho
            obtain ⟨pc1, lv1, st1, h1, c1, s1⟩ := o
            have a := xe_2_mono ho
            have b := ih _ _ _ _ _ _ _ _ _ _ _ _ _ he
            exact ⟨Nat.le_trans a.1 b.1, Nat.le_trans a.2 b.2⟩
          · split at he
            · cases he
            · split at he
              · cases he
              · split at he
                · cases he
                · have b := ih _ _ _ _ _ _ _ _ _ _ _ _ _ he
                  exact ⟨Nat.le_trans (Nat.le_add_right _ _) b.1, Nat.le_trans (Nat.le_add_right _ _) b.2⟩
set_option maxHeartbeats 4000000 in
/-- A RUN UP TO A PLACE, ON THE MACHINE -/
theorem xS_u {M : Nat → Option xm_M} {Cd : Nat → Nat → Option xr_R} (hP : xP_ok M Cd) {scr : Option (Nat × (Nat → Int32))} {stop mid : Nat} {mi : xm_M} (hm : M mid = some mi) {p : Program} {l : Launch} {e : Env} {R : Room} {s : State} {m : MethodId} {args : Array Value} {below : List Frame} {meth : Method} {c : Code} {Q : State → Prop} {D : va_G} {A : Nat → Prop} {ad sp : Nat → Nat} {cy : Nat → ClassId} (X : xc_X p s m args meth c mi.2.2.1 mi.2.2.2.1 mi.1 (xm_ini mi) D cy A sp) (hscr : ∀ L xs, scr = some (L, xs) → va_X (sp 0) L xs s s.heap ∧ sp 0 < s.heap.size ∧ ¬ A (sp 0)) : ∀ (f d : Nat) (pc : Nat) (lv : List (Nat × Value)) (st : List Value) (h : xh_H) (cells slots : Nat) (pc' : Nat) (lv' : List (Nat × Value)) (st' : List Value) (h' : xh_H) (c' s' : Nat) (H : Heap) (locs : List Loc) (ls : Array Slot), xe_u M Cd scr stop f d mid mi (pc, lv, st, h, cells, slots) = some (pc', lv', st', h', c', s') → (d ≤ R.frames ∧ 40 * d ≤ R.locals ∧ c' ≤ R.cells ∧ s' ≤ R.slots) → xc_S D cy ad sp A s mi.2.2.2.1 h lv H locs ls →
    (∀ (H1 : Heap) (locs1 : List Loc) (ls1 : Array Slot), xc_S D cy ad sp A s mi.2.2.2.1 h' lv' H1 locs1 ls1 → W p l e R s m args below meth c H1 locs1 c' s' Q (F0 m pc' ls1 (st'.map (xh_v ad sp)))) →
    W p l e R s m args below meth c H locs cells slots Q (F0 m pc ls (st.map (xh_v ad sp))) := by
  intro f
  induction f with
  | zero => intro d pc lv st h cells slots pc' lv' st' h' c' s' H locs ls he; cases he
  | succ f ih =>
    intro d pc lv st h cells slots pc' lv' st' h' c' s' H locs ls he hR S kk
    unfold xe_u at he
    cases hb : Nat.beq pc stop with
    | true => rw [hb] at he; cases he; exact kk _ _ _ S
    | false =>
      rw [hb] at he
      simp only [cond_false] at he
      split at he
      · cases he
      · rename_i r hr
        obtain ⟨hrb, hrc⟩ := (hP.1 mid mi hm).2 pc r hr
        cases hi : xe_isr r.1 with
        | true => rw [hi] at he; cases he
        | false =>
          rw [hi] at he
          simp only [cond_false] at he
          split at he
          · rename_i o ho
            obtain ⟨pc1, lv1, st1, h1, c1, s1⟩ := o
            have hmn := xe_u_mono _ _ _ _ _ _ _ _ _ _ _ _ _ _ he
            refine xe_2_ok hP.2 X hrb hrc ho ⟨hR.1, hR.2.1⟩ ⟨Nat.le_trans hmn.1 hR.2.2.1, Nat.le_trans hmn.2 hR.2.2.2⟩ hscr S ?_
            intro H1 locs1 ls1 S1
            exact ih _ _ _ _ _ _ _ _ _ _ _ _ _ _ _ _ he hR S1 kk
          · split at he
            · cases he
            · rename_i d' hx0
              split at he
              · cases he
              · rename_i mj As q hcl
                split at he
                · cases he
                · rename_i v1 h1 mc ms hx1
                  have hmn := xe_u_mono _ _ _ _ _ _ _ _ _ _ _ _ _ _ he
                  refine xe_call_ok hP (xS_all hP f) hrb hrc hcl hx1 X ⟨hR.1, hR.2.1⟩ ⟨Nat.le_trans hmn.1 hR.2.2.1, Nat.le_trans hmn.2 hR.2.2.2⟩ S ?_
                  intro H1 locs1 S1
                  exact ih _ _ _ _ _ _ _ _ _ _ _ _ _ _ _ _ he hR S1 kk
end XSV
