section XSI
variable {p : Program} {l : Launch} {e : Env} {R : Room} {s : State} {m : MethodId} {args : Array Value} {below : List Frame} {meth : Method} {c : Code} {H : Heap} {locs : List Loc} {cells slots : Nat} {Q : State → Prop}
variable {ls : Array Slot} {D : va_G} {A : Nat → Prop} {ad sp : Nat → Nat} {cy : Nat → ClassId}
def ls_lv (a b d : Int32) : List (Nat × Value) := lv_args 0 [.ref 0, .int a, .int b, .int d, .ref 71]
set_option maxRecDepth 100000 in
set_option maxHeartbeats 4000000 in
/-- the law's share, up to its call -/
theorem ls_pre (X : xc_X p s m args meth c cL_share 6 RL false D cy A sp) {a b d : Int32} {h : xh_H} (hR : 49 ≤ R.frames ∧ 40 * 49 ≤ R.locals) (S : xc_S D cy ad sp A s 6 h (ls_lv a b d) H locs ls)
    (kk : ∀ (H1 : Heap) (locs1 : List Loc) (ls1 : Array Slot), xc_S D cy ad sp A s 6 h (ls_lv a b d) H1 locs1 ls1 → W p l e R s m args below meth c H1 locs1 0 0 Q (F0 m 7 ls1 (([.int d, .int b, .int a, .ref 0, .int 0, .ref 71] : List Value).map (xh_v ad sp)))) :
    W p l e R s m args below meth c H locs 0 0 Q (F0 m 0 ls (([] : List Value).map (xh_v ad sp))) := by
  have hn : ∀ (L : Nat) (xs : Nat → Int32), (none : Option (Nat × (Nat → Int32))) = some (L, xs) → va_X (sp 0) L xs s s.heap ∧ sp 0 < s.heap.size ∧ ¬ A (sp 0) := fun L xs z => by cases z
  have hz : (0 : Nat) ≤ R.cells ∧ (0 : Nat) ≤ R.slots := ⟨Nat.zero_le _, Nat.zero_le _⟩
  refine xe_2_ok (scr := none) (M := xM) (d := 49) (r := (.aload 4, 2, 0, 0, 0, 0)) (lv := ls_lv a b d) (st := []) (h := h) (pc' := 2) (lv' := ls_lv a b d) (st' := [.ref 71]) (h' := h) (cells' := 0) (slots' := 0) xP.2 X (by decide +kernel) rfl rfl hR hz hn S ?_
  intro H1 locs1 ls1 S
  refine xe_2_ok (scr := none) (M := xM) (d := 49) (r := (.iconst 0, 1, 0, 0, 0, 0)) (lv := ls_lv a b d) (st := [.ref 71]) (h := h) (pc' := 3) (lv' := ls_lv a b d) (st' := [.int 0, .ref 71]) (h' := h) (cells' := 0) (slots' := 0) xP.2 X (by decide +kernel) rfl rfl hR hz hn S ?_
  intro H1 locs1 ls1 S
  refine xe_2_ok (scr := none) (M := xM) (d := 49) (r := (.aload_n 0, 1, 0, 0, 0, 0)) (lv := ls_lv a b d) (st := [.int 0, .ref 71]) (h := h) (pc' := 4) (lv' := ls_lv a b d) (st' := [.ref 0, .int 0, .ref 71]) (h' := h) (cells' := 0) (slots' := 0) xP.2 X (by decide +kernel) rfl rfl hR hz hn S ?_
  intro H1 locs1 ls1 S
  refine xe_2_ok (scr := none) (M := xM) (d := 49) (r := (.iload_n 1, 1, 0, 0, 0, 0)) (lv := ls_lv a b d) (st := [.ref 0, .int 0, .ref 71]) (h := h) (pc' := 5) (lv' := ls_lv a b d) (st' := [.int a, .ref 0, .int 0, .ref 71]) (h' := h) (cells' := 0) (slots' := 0) xP.2 X (by decide +kernel) rfl rfl hR hz hn S ?_
  intro H1 locs1 ls1 S
  refine xe_2_ok (scr := none) (M := xM) (d := 49) (r := (.iload_n 2, 1, 0, 0, 0, 0)) (lv := ls_lv a b d) (st := [.int a, .ref 0, .int 0, .ref 71]) (h := h) (pc' := 6) (lv' := ls_lv a b d) (st' := [.int b, .int a, .ref 0, .int 0, .ref 71]) (h' := h) (cells' := 0) (slots' := 0) xP.2 X (by decide +kernel) rfl rfl hR hz hn S ?_
  intro H1 locs1 ls1 S
  refine xe_2_ok (scr := none) (M := xM) (d := 49) (r := (.iload_n 3, 1, 0, 0, 0, 0)) (lv := ls_lv a b d) (st := [.int b, .int a, .ref 0, .int 0, .ref 71]) (h := h) (pc' := 7) (lv' := ls_lv a b d) (st' := [.int d, .int b, .int a, .ref 0, .int 0, .ref 71]) (h' := h) (cells' := 0) (slots' := 0) xP.2 X (by decide +kernel) rfl rfl hR hz hn S ?_
  intro H1 locs1 ls1 S
  exact kk H1 locs1 ls1 S
theorem ls_st {h1 : xh_H} {v : Int64} (h71 : h1.1[71]? = some (4, 1)) (lv : List (Nat × Value)) : xe_2 none 6 (.lastore, 1, 0, 0, 0, 0) 49 10 lv [.long v, .int 0, .ref 71] h1 0 0 = some (11, lv, [], xh_ul h1 71 0 v, 0, 0) := by
  have e : xe_in 0 1 = true := by decide
  have e2 : (0 : Int32).toNatClampNeg = 0 := by decide
  simp [xe_2, xe_1, xp_lir, h71, e, e2]
theorem ls_fit (a b d : Int32) : xm_cat [.ref 0, .int a, .int b, .int d, .ref 71] ≤ 6 := Nat.le_of_ble_eq_true rfl
set_option maxRecDepth 100000 in
set_option maxHeartbeats 4000000 in
/-- the law's share where the class's share returns -/
theorem ls_ret {f : Nat} {a b d : Int32} {h h1 : xh_H} {v : Int64} (he : xe_x xM xC none f 48 xi_X9_share xmi_X9_share (0, lv_args 0 [.ref 0, .int a, .int b, .int d], [], h, 0, 0) = some (some (.long v), h1, 0, 0)) (h0 : h.1[0]? = some (0, 9)) (h71 : h1.1[71]? = some (4, 1)) (l : Launch) (sz : Nat) :
    Met l yL_share (Cond.codeWith yL_share cL_share 6 (some .int) [(0, 11, 14, 13)] :: xG) (xm_rm 49 0 0) (va_Pc (([.ref 0, .int a, .int b, .int d, .ref 71] : List Value).map (xh_v ad sp)) (xq_P D cy ad sp h sz)) (xq_Q D cy ad sp (some (.int 0)) (xh_ul h1 71 0 v) (va_A (xh_ws ad cy h) sz)) 0 0 (va_A (xh_ws ad cy h) sz) := by
  refine va_MetW (cc := cL_share) (maxL := 6) (ret := some .int) (by decide) rfl ?_
  intro p e s m args below meth c s₁ B hml hv
  obtain ⟨rfl, hsz, hat, hK, hO⟩ := hv
  have hts := atoms_spec (ws := Cond.codeWith yL_share cL_share 6 (some .int) [(0, 11, 14, 13)] :: xG) B.pre
  have hown : s.vm.findClass RL = some m.cls := findClass_of_methodNamed B.named
  have hl0 := lv_entry (([.ref 0, .int a, .int b, .int d, .ref 71] : List Value).map (xh_v ad sp)) (n := 6) (by rw [lg_sl_len, xm_cat_m]; exact ls_fit a b d)
  rw [lv_args_m] at hl0
  rw [lg_entry_eq]
  subst hsz
  have hD := hat.2.1.self (sz := s.heap.size)
  have X : xc_X p s m (([.ref 0, .int a, .int b, .int d, .ref 71] : List Value).map (xh_v ad sp)).toArray meth c cL_share 6 RL false D cy (va_A (xh_ws ad cy h) s.heap.size) sp := ⟨B.exec, B.bytes, hml, hown, fun w hw => hts w (List.mem_cons_of_mem _ hw), hK, fun q hq => Or.inr hq, hO, fun z => by cases z⟩
  have hn : ∀ (L : Nat) (xs : Nat → Int32), (none : Option (Nat × (Nat → Int32))) = some (L, xs) → va_X (sp 0) L xs s s.heap ∧ sp 0 < s.heap.size ∧ ¬ va_A (xh_ws ad cy h) s.heap.size (sp 0) := fun L xs z => by cases z
  have hR : 49 ≤ (headSpec (Cond.codeWith yL_share cL_share 6 (some .int) [(0, 11, 14, 13)] :: xG) (xm_rm 49 0 0)).room.frames ∧ 40 * 49 ≤ (headSpec (Cond.codeWith yL_share cL_share 6 (some .int) [(0, 11, 14, 13)] :: xG) (xm_rm 49 0 0)).room.locals := ⟨Nat.le_refl 49, Nat.le_refl 1960⟩
  refine ls_pre X (h := h) (a := a) (b := b) (d := d) hR ⟨⟨hat.1, hD, hat.2.2⟩, va_S.rf, hl0⟩ ?_
  intro H1 locs1 ls1 S1
  refine xe_call_ok (mi := (RL, yL_share, cL_share, 6, some .int, 3, 5, 99)) (r := (.invokevirtual 7, 3, xi_X9_share, 0, 4, 230)) (d' := 48) (As := [.ref 0, .int a, .int b, .int d]) (q := [.int 0, .ref 71]) (mj := xmi_X9_share) (v1 := some (.long v)) (h1 := h1) (mc := 0) (ms := 0) (lv := ls_lv a b d) xP (xS_all xP f) (by decide +kernel) (by decide +kernel) ?_ he X hR ⟨Nat.le_refl _, Nat.le_refl _⟩ S1 ?_
  · unfold xe_cl
    show (match h.1[0]? with
      | some (0, ci) => _
      | _ => _) = _
    rw [h0]
    rfl
  intro H2 locs2 S2
  refine xe_2_ok (scr := none) (M := xM) (d := 49) (r := (.lastore, 1, 0, 0, 0, 0)) (lv := ls_lv a b d) (st := [.long v, .int 0, .ref 71]) (h := h1) (pc' := 11) (lv' := ls_lv a b d) (st' := []) (h' := xh_ul h1 71 0 v) (cells' := 0) (slots' := 0) xP.2 X (by decide +kernel) rfl (ls_st h71 _) hR ⟨Nat.le_refl _, Nat.le_refl _⟩ hn S2 ?_
  intro H3 locs3 ls3 S3
  refine xe_2_ok (scr := none) (M := xM) (d := 49) (r := (.goto 7, 3, 18, 0, 0, 0)) (lv := ls_lv a b d) (st := []) (h := xh_ul h1 71 0 v) (pc' := 18) (lv' := ls_lv a b d) (st' := []) (h' := xh_ul h1 71 0 v) (cells' := 0) (slots' := 0) xP.2 X (by decide +kernel) rfl rfl hR ⟨Nat.le_refl _, Nat.le_refl _⟩ hn S3 ?_
  intro H4 locs4 ls4 S4
  refine xe_2_ok (scr := none) (M := xM) (d := 49) (r := (.iconst 0, 1, 0, 0, 0, 0)) (lv := ls_lv a b d) (st := []) (h := xh_ul h1 71 0 v) (pc' := 19) (lv' := ls_lv a b d) (st' := [.int 0]) (h' := xh_ul h1 71 0 v) (cells' := 0) (slots' := 0) xP.2 X (by decide +kernel) rfl rfl hR ⟨Nat.le_refl _, Nat.le_refl _⟩ hn S4 ?_
  intro H5 locs5 ls5 S5
  exact xe_rv_ok (cc := cL_share) (nL := 6) (lv1 := ls_lv a b d) (ri := .ireturn) (ret := some .int) (st1 := [.int 0]) rfl B.exec B.bytes B.returns B.notSynchronized S5 (by decide +kernel)
set_option maxRecDepth 100000 in
set_option maxHeartbeats 4000000 in
/-- the law's share where the class's share throws -/
theorem ls_thr {f : Nat} {a b d : Int32} {h : xh_H} {lv' : List (Nat × Value)} (he : xe_u xM xC none 26 f 48 xi_X9_share xmi_X9_share (0, lv_args 0 [.ref 0, .int a, .int b, .int d], [], h, 0, 0) = some (26, lv', [], h, 0, 0)) (h0 : h.1[0]? = some (0, 9)) (l : Launch) (hl : l.stackTraces = false) (sz : Nat) :
    Met l yL_share (Cond.codeWith yL_share cL_share 6 (some .int) [(0, 11, 14, 13)] :: xG) (xm_rm 49 1 6) (va_Pc (([.ref 0, .int a, .int b, .int d, .ref 71] : List Value).map (xh_v ad sp)) (sh_P D cy ad sp h sz)) (fun _ st oc t => oc = .returned (some (.int 1)) ∧ sh_B D cy ad (va_A (xh_ws ad cy h) sz) h t ∧ va_F (va_A (xh_ws ad cy h) sz) st t) 1 6 (va_A (xh_ws ad cy h) sz) := by
  refine va_MetW (cc := cL_share) (maxL := 6) (ret := some .int) (by decide) rfl ?_
  intro p e s m args below meth c s₁ B hml hv
  obtain ⟨rfl, ⟨hsz, hat, hK, hO⟩, hU⟩ := hv
  have hts := atoms_spec (ws := Cond.codeWith yL_share cL_share 6 (some .int) [(0, 11, 14, 13)] :: xG) B.pre
  have hG : ∀ w ∈ xG, w.before (([.ref 0, .int a, .int b, .int d, .ref 71] : List Value).map (xh_v ad sp)).toArray s = true := fun w hw => hts w (List.mem_cons_of_mem _ hw)
  have htab : c.exceptionTable.toList = tableOf [(0, 11, 14, 13)] := vx_table (x := yL_share) B (hts _ List.mem_cons_self)
  have hown : s.vm.findClass RL = some m.cls := findClass_of_methodNamed B.named
  have hl0 := lv_entry (([.ref 0, .int a, .int b, .int d, .ref 71] : List Value).map (xh_v ad sp)) (n := 6) (by rw [lg_sl_len, xm_cat_m]; exact ls_fit a b d)
  rw [lv_args_m] at hl0
  rw [lg_entry_eq]
  subst hsz
  have hD := hat.2.1.self (sz := s.heap.size)
  have X : xc_X p s m (([.ref 0, .int a, .int b, .int d, .ref 71] : List Value).map (xh_v ad sp)).toArray meth c cL_share 6 RL false D cy (va_A (xh_ws ad cy h) s.heap.size) sp := ⟨B.exec, B.bytes, hml, hown, hG, hK, fun q hq => Or.inr hq, hO, fun z => by cases z⟩
  have hR : 49 ≤ (headSpec (Cond.codeWith yL_share cL_share 6 (some .int) [(0, 11, 14, 13)] :: xG) (xm_rm 49 1 6)).room.frames ∧ 40 * 49 ≤ (headSpec (Cond.codeWith yL_share cL_share 6 (some .int) [(0, 11, 14, 13)] :: xG) (xm_rm 49 1 6)).room.locals := ⟨Nat.le_refl 49, Nat.le_refl 1960⟩
  refine ls_pre X (h := h) (a := a) (b := b) (d := d) hR ⟨⟨hat.1, hD, hat.2.2⟩, va_S.rf, hl0⟩ ?_
  intro H1 locs1 ls1 S1
  obtain ⟨hat1, hS1, hl1⟩ := S1
  have hfree := xq_free hat1 hS1 (fun q hq => Or.inr hq)
  have hok : xm_ok xmi_X9_share := (xP.1 xi_X9_share xmi_X9_share rfl).1 (by decide)
  have hgi := xG_in hok
  obtain ⟨j1, j2, j3, j4, j5, j6, j7, j8, j9⟩ := hok
  obtain ⟨T, N, hv⟩ := (j7 rfl).2.2
  have hM := sh_thr (D := D) (cy := cy) (ad := ad) (sp := sp) (h := h) he (Nat.le_of_ble_eq_true rfl) l hl H1.size
  have hd7 : decode cL_share 7 = .ok (.invokevirtual 7, 3) := by decide +kernel
  refine vx_calll (A0 := va_A (xh_ws ad cy h) s.heap.size) (H0 := s.heap) (vx_runV (C := RX9) (b := ad 0) (own := RL) (index := 7) (n := 3) (bytes := cX9_share) (maxL := 11) (ret := some .long) (cc := cL_share) (nL := 6) (Ts := xG) (As := [.int a, .int b, .int d]) (rest := [.int 0, .ref (ad 71)]) ⟨B.exec, B.bytes, hml, hown, hG⟩ hM ⟨callB_of 3 hG hgi rfl rfl rfl (hG _ j2) (hG _ sh_l9) j5 ⟨Nat.le_refl _, Nat.le_of_ble_eq_true rfl⟩, hG _ (j7 rfl).1, hG _ (j7 rfl).2.1⟩ ⟨sh_blind _ _ _, va_recv hK hat1.1 hv (xh_ws_at h0), sh_pre X hat1 hS1 hU⟩ rfl rfl hl1.1 rfl (lv_room (Nat.le_of_ble_eq_true rfl)) hd7 ⟨Nat.le_refl _, Nat.le_refl _⟩) hS1 (fun q _ hq => hfree q hq) hfree (fun q _ hq => hfree q hq) ?_ ?_
  · intro E ce q9 u t H2 locs2 ht hal _ hb hsz hkeep hS2 hce hcv hcl
    obtain ⟨rfl, H0, hatx, hz, hk⟩ := hb
    refine vx_catch (own := RL) (name := sh_N) (E := sh_N) hown [] ⟨0, 11, 14, 13⟩ [] htab (fun z hz => by cases hz) (by decide) (by decide) (hG _ sh_lc) (hU.2.2.at sh_ca) hce hcv hcl ?_
    refine lv_astore B.exec B.bytes (i := 5) (nL := 6) (by decide +kernel) hl1 (by decide) rfl ?_
    intro ls3 hl3
    refine lv_iconst B.exec B.bytes (n := 1) (v := 1) (by decide +kernel) rfl ?_
    refine W.iret (cc := cL_share) B.exec B.bytes B.returns ?_ hS2.2.2 (by decide +kernel) B.notSynchronized
    intro t2 ht2 _
    refine ⟨rfl, ⟨H0, hatx.weaken hfree, by rw [ht2, ← ht]; exact hz, fun q hq => by rw [ht2, ← ht]; exact hk q hq⟩, by rw [ht2]; exact hS2.1, fun q g1 g2 => by rw [ht2]; exact hS2.2.1 q g1 g2⟩
  · intro r u t H2 locs2 _ _ hp
    exact hp.elim
end XSI
