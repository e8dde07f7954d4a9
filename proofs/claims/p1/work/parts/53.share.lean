section XSH
/-- the words of the throw -/
def sh_N : String := "java/util/NoSuchElementException"
def sh_ns : List String := ["java/lang/RuntimeException", "java/lang/Exception"]
/-- words that stay, but are not of xG -/
def sh_b : List Cond := [.declares ⟨"java/lang/RuntimeException", "<init>", "()V"⟩, .declares ⟨"java/lang/Exception", "<init>", "()V"⟩, .declares ⟨"java/lang/Throwable", "<init>", "()V"⟩, .castable sh_N sh_N]
def sh_W (U : State) : Prop := ∀ w ∈ sh_b, w.before #[] U = true
theorem sh_bt : ∀ w ∈ sh_b, w.onTables = true := by decide
theorem sh_W.moved {s U : State} (hA : s.vm.Alike U.vm) (h : sh_W s) : sh_W U := by
  intro w hw
  refine va_tabs (sh_bt w hw) (rfl : (s.setVm U.vm).vm = U.vm) ?_ (A := #[])
  have h1 := h w hw
  unfold sh_b at hw
  simp only [List.mem_cons, List.not_mem_nil, or_false] at hw
  rcases hw with rfl | rfl | rfl | rfl
  · rw [Cond.declares_setVm hA]; exact h1
  · rw [Cond.declares_setVm hA]; exact h1
  · rw [Cond.declares_setVm hA]; exact h1
  · rw [Cond.castable_setVm hA]; exact h1
theorem sh_W.at {U : State} {args : Array Value} (h : sh_W U) {w : Cond} (hw : w ∈ sh_b) : w.before args U = true := va_tabs (sh_bt w hw) rfl (h w hw)
def sh_ck : List Cond → List (Nat × Nat) → Bool
  | [], [] => true
  | w :: ws, p :: ps => cond (Nat.beq p.1 9) (decide (sh_b[p.2]? = some w)) (xw_b p.1 p.2 w) && sh_ck ws ps
  | _, _ => false
theorem sh_ck_ok : ∀ (L : List Cond) (ps : List (Nat × Nat)), sh_ck L ps = true → ∀ w ∈ L, w ∈ xG ∨ w ∈ sh_b := by
  intro L
  induction L with
  | nil => intro ps h w hw; cases hw
  | cons w L ih =>
    intro ps h
    cases ps with
    | nil => cases h
    | cons q ps =>
      obtain ⟨h1, h2⟩ := xw_bb h
      intro w' hw
      rcases List.mem_cons.mp hw with rfl | hw
      · cases hq : Nat.beq q.1 9 with
        | true => rw [hq] at h1; exact Or.inr (List.mem_of_getElem? (of_decide_eq_true h1))
        | false => rw [hq] at h1; exact Or.inl (xw_in h1)
      · exact ih ps h2 w' hw
def sh_ps : List (Nat × Nat) := [(1, 18), (5, 16), (5, 25), (5, 27), (5, 30), (5, 32), (5, 17), (5, 18), (1, 28), (1, 29), (5, 19), (5, 24), (5, 28), (5, 44), (5, 6), (5, 45), (5, 8), (5, 46), (5, 10), (5, 20), (5, 22), (5, 12), (5, 34), (5, 35), (5, 36), (5, 37), (9, 0), (5, 37), (5, 38), (5, 39), (5, 40), (9, 1), (5, 40), (5, 41), (5, 42), (5, 17), (9, 2), (5, 33), (4, 235), (9, 3), (5, 3), (5, 4), (5, 5), (5, 7), (5, 9), (5, 11), (5, 15), (5, 14), (5, 13)]
set_option maxRecDepth 100000 in
theorem sh_at : ∀ w ∈ vx_at0 RX9 186 sh_N sh_ns, w ∈ xG ∨ w ∈ sh_b := sh_ck_ok _ sh_ps (by decide +kernel)
theorem sh_gd : ∀ w ∈ vx_at0 RX9 186 sh_N sh_ns, vx_ot w = true := fun w hw => by
  unfold vx_ot
  rcases sh_at w hw with h | h
  · rw [(List.mem_filter.mp h).2, Bool.or_true]
  · rw [sh_bt w h, Bool.true_or]
theorem sh_k : Cond.classLink RX9 184 sh_N ∈ xG := xw_in (K := 4) (i := 234) (by decide +kernel)
theorem sh_i : Cond.initialized sh_N ∈ xG := xw_in (K := 1) (i := 21) (by decide +kernel)
theorem sh_lc : Cond.classLink RL 13 sh_N ∈ xG := xw_in (K := 4) (i := 229) (by decide +kernel)
theorem sh_ca : Cond.castable sh_N sh_N ∈ sh_b := List.mem_of_getElem? (i := 3) rfl
theorem sh_lk : Cond.methodLink RL 68 yL_share ∈ xG := xw_in (K := 4) (i := 226) (by decide +kernel)
theorem sh_ls : Cond.static yL_share ∈ xG := xw_in (K := 4) (i := 227) (by decide +kernel)
theorem sh_lw : Cond.codeWith yL_share cL_share 6 (some .int) [(0, 11, 14, 13)] ∈ xG := xw_in (K := 4) (i := 228) (by decide +kernel)
theorem sh_li : Cond.initialized RL ∈ xG := xw_in (K := 1) (i := 0) (by decide +kernel)
theorem sh_l9 : Cond.methodLink RL 7 yX9_share ∈ xG := xw_in (K := 4) (i := 230) (by decide +kernel)
/-- references below a number -/
def sh_all (n : Nat) (L : List (List (Option Nat))) : Bool := L.all fun row => row.all fun o => match o with
  | some q => Nat.blt q n
  | none => true
theorem xg_all {n : Nat} {L : List (List (Option Nat))} (h : sh_all n L = true) {c k q : Nat} (e : xg none L c k = some q) : q < n := by
  unfold xg at e
  rw [List.getD_eq_getElem?_getD] at e
  cases hk : (L.getD c [])[k]? with
  | none => rw [hk] at e; cases e
  | some o =>
    rw [hk] at e
    have e : o = some q := e
    subst e
    rw [List.getD_eq_getElem?_getD] at hk
    cases hc : L[c]? with
    | none => rw [hc] at hk; simp at hk
    | some row =>
      rw [hc] at hk
      have hk : row[k]? = some (some q) := hk
      have h1 := List.all_eq_true.mp (List.all_eq_true.mp h row (List.mem_of_getElem? hc)) _ (List.mem_of_getElem? hk)
      exact Nat.blt_eq.mp h1
theorem xh_ws_ad {ad ad' : Nat → Nat} {cy : Nat → ClassId} {h : xh_H} {n : Nat} (hl : h.1.length ≤ n) (hr : sh_all n h.2.2.2 = true) (he : ∀ k, k < n → ad' k = ad k) : xh_ws ad' cy h = xh_ws ad cy h := by
  apply List.ext_getElem?
  intro c
  rw [xh_ws_get, xh_ws_get]
  cases hq : h.1[c]? with
  | none => rfl
  | some sh =>
    have hc : c < n := by have := (List.getElem?_eq_some_iff.mp hq).1; omega
    have hm : ∀ k, (xg none h.2.2.2 c k).map ad' = (xg none h.2.2.2 c k).map ad := by
      intro k
      cases hk : xg none h.2.2.2 c k with
      | none => rfl
      | some q =>
        show some (ad' q) = some (ad q)
        rw [he q (xg_all hr hk)]
    have hf : ∀ ty k, xh_fv ad' h c ty k = xh_fv ad h c ty k := by intro ty k; cases ty <;> simp [xh_fv, hm]
    have e : xh_e ad' cy h c sh = xh_e ad cy h c sh := by unfold xh_e; split <;> simp [hf, hm]
    simp [he c hc, e]
def sh_ad (ad : Nat → Nat) (n sz : Nat) (k : Nat) : Nat := if k < n then ad k else sz + (k - n)
/-- the heap has grown by what is not ours -/
theorem sh_grow {D : va_G} {cy : Nat → ClassId} {ad : Nat → Nat} {A : Nat → Prop} {h : xh_H} {H1 H2 : Heap} (hr : sh_all h.1.length h.2.2.2 = true) (hat : xh_at D cy ad A h H1) (hk : ∀ q : Nat, q < H1.size → H2[q]? = H1[q]?) : xh_at D cy (sh_ad ad h.1.length H2.size) A h H2 := by
  have e : xh_ws (sh_ad ad h.1.length H2.size) cy h = xh_ws ad cy h := xh_ws_ad (Nat.le_refl _) hr (fun k hk => if_pos hk)
  refine ⟨?_, ?_, ?_⟩
  · rw [e]
    exact hat.1.kept (fun k q hq => hk q.1 (vx_lt hat.1 hq))
  · rw [e]
    exact hat.2.1
  · intro j
    unfold sh_ad
    rw [if_neg (by omega)]
    omega
def sh_U (A : Nat → Prop) (U : State) : Prop := vx_Zq Bundle.tN "UNASSIGNED_STACK" Bundle.steD A U U.heap ∧ vx_Zq Bundle.tN "SUPPRESSED_SENTINEL" Bundle.listD A U U.heap ∧ sh_W U
def sh_P (D : va_G) (cy : Nat → ClassId) (ad sp : Nat → Nat) (h : xh_H) (sz : Nat) (U : State) : Prop := xq_P D cy ad sp h sz U ∧ sh_U (va_A (xh_ws ad cy h) sz) U
variable {p : Program} {l : Launch} {e : Env} {R : Room} {s : State} {m : MethodId} {args : Array Value} {below : List Frame} {meth : Method} {c : Code} {H : Heap} {locs : List Loc} {cells slots : Nat} {Q : State → Prop}
variable {cc : ByteArray} {ls : Array Slot} {D : va_G} {A : Nat → Prop} {ad sp : Nat → Nat} {cy : Nat → ClassId} {nL : Nat} {own : String} {ini : Bool}
theorem sh_blind (vs : List Value) (h : xh_H) (sz : Nat) : FrameBlind (va_Pc vs (sh_P D cy ad sp h sz)) := by
  intro a U g mk hp
  obtain ⟨h0, h1, h2, h3, h4⟩ := hp
  have b := xq_blind (D := D) (cy := cy) (ad := ad) (sp := sp) vs h sz a U g mk ⟨h0, h1⟩
  exact ⟨b.1, b.2, vx_Zq.moved (u := U) (U := U.calling g mk a) (Vm.Alike.refl U.vm) h2, vx_Zq.moved (u := U) (U := U.calling g mk a) (Vm.Alike.refl U.vm) h3, sh_W.moved (s := U) (U := U.calling g mk a) (Vm.Alike.refl U.vm) h4⟩
theorem sh_pre {h : xh_H} {vs : List Value} (X : xc_X p s m args meth c cc nL own ini D cy A sp) (hat : xh_at D cy ad A h H) (hS : va_S A s.heap H locs) (hU : sh_U A s) : ∀ U : State, U.heap = H → s.WarmedH U.vm → va_Pc vs (sh_P D cy ad sp h H.size) vs.toArray U := by
  intro U hU0 hW
  have b := xq_pre (vs := vs) X hat hS U hU0 hW
  have hf := xq_free hat hS X.2.2.2.2.2.2.1
  refine ⟨b.1, b.2, ?_, ?_, hU.2.2.moved hW.alike⟩
  · rw [hU0]; exact vx_Zq.moved hW.alike ((hU.1.kept hS.2.1).narrow hf)
  · rw [hU0]; exact vx_Zq.moved hW.alike ((hU.2.1.kept hS.2.1).narrow hf)
/-- what is known behind a throw: our cells as they were, the heap grown -/
def sh_B (D : va_G) (cy : Nat → ClassId) (ad : Nat → Nat) (A : Nat → Prop) (h : xh_H) (t : State) : Prop := ∃ H1 : Heap, xh_at D cy ad A h H1 ∧ H1.size ≤ t.heap.size ∧ ∀ q : Nat, q < H1.size → t.heap[q]? = H1[q]?
set_option maxHeartbeats 4000000 in
theorem sh_thr {f : Nat} {As : List Value} {h : xh_H} {lv' : List (Nat × Value)} (he : xe_u xM xC none 26 f 11 xi_X9_share xmi_X9_share (0, lv_args 0 As, [], h, 0, 0) = some (26, lv', [], h, 0, 0)) (hfit : xm_cat As ≤ 11) (l : Launch) (hl : l.stackTraces = false) (sz : Nat) : vx_Met l yX9_share (Cond.code yX9_share cX9_share 11 (some .long) :: xG) (xm_rm 11 1 6) (va_Pc (As.map (xh_v ad sp)) (sh_P D cy ad sp h sz)) (va_Ql (fun _ (_ : Unit) => False) (fun _ _ => True) (va_A (xh_ws ad cy h) sz)) (vx_X (fun _ : Unit => True) (fun E _ t => E = sh_N ∧ sh_B D cy ad (va_A (xh_ws ad cy h) sz) h t) (va_A (xh_ws ad cy h) sz)) 1 6 (va_A (xh_ws ad cy h) sz) := by
  refine vx_ofW (cc := cX9_share) (maxL := 11) (ret := some .long) (by decide) rfl ?_
  intro p e s m args below meth c s₁ B hml hexc hv
  obtain ⟨rfl, ⟨hsz, hat, hK, hO⟩, hU, hN, hW⟩ := hv
  have hts := atoms_spec (ws := Cond.code yX9_share cX9_share 11 (some .long) :: xG) B.pre
  have hG : ∀ w ∈ xG, w.before (As.map (xh_v ad sp)).toArray s = true := fun w hw => hts w (List.mem_cons_of_mem _ hw)
  have hown : s.vm.findClass RX9 = some m.cls := findClass_of_methodNamed B.named
  have hl0 := lv_entry (As.map (xh_v ad sp)) (n := 11) (by rw [lg_sl_len, xm_cat_m]; exact hfit)
  rw [lv_args_m] at hl0
  rw [lg_entry_eq]
  subst hsz
  have hD := hat.2.1.self (sz := s.heap.size)
  have X : xc_X p s m (As.map (xh_v ad sp)).toArray meth c xmi_X9_share.2.2.1 xmi_X9_share.2.2.2.1 xmi_X9_share.1 (xm_ini xmi_X9_share) D cy (va_A (xh_ws ad cy h) s.heap.size) sp := ⟨B.exec, B.bytes, hml, hown, hG, hK, fun q hq => Or.inr hq, hO, fun z => by cases z⟩
  refine xS_u xP (mid := xi_X9_share) (mi := xmi_X9_share) rfl X (scr := none) (fun L xs z => by cases z) f 11 0 _ [] h 0 0 26 lv' [] h 0 0 _ _ _ he ⟨Nat.le_refl _, Nat.le_refl _, Nat.zero_le _, Nat.zero_le _⟩ ⟨⟨hat.1, hD, hat.2.2⟩, va_S.rf, hl0⟩ ?_
  intro H1 locs1 ls1 S1
  obtain ⟨hat1, hS1, hl1⟩ := S1
  refine vx_throw0 (own := RX9) (cls := sh_N) (names := sh_ns) (ik := 184) (ic := 186) (A := va_A (xh_ws ad cy h) s.heap.size) (rest := []) B.exec B.bytes hl hown (by decide) (by decide) (hG _ sh_k) (hG _ sh_i) (fun w hw => (sh_at w hw).elim (fun h => hG w h) (fun h => hW.at h)) ?_ hU hN hS1 (hl1.1.trans hml.symm) (by decide +kernel) (by decide +kernel) (by decide +kernel) (by decide +kernel) (fun x hx => (hexc x hx).elim) (Nat.le_of_ble_eq_true rfl) (Nat.le_of_ble_eq_true rfl) (Nat.le_of_ble_eq_true rfl) (Nat.le_of_ble_eq_true rfl) B.notSynchronized ?_ hS1.2.2 (by decide) (by decide)
  · intro w hw
    rcases List.mem_cons.mp hw with rfl | hw
    · unfold vx_ot; rw [(List.mem_filter.mp sh_k).2, Bool.or_true]
    · rcases List.mem_cons.mp hw with rfl | hw
      · unfold vx_ot; rw [(List.mem_filter.mp sh_i).2, Bool.or_true]
      · exact sh_gd w hw
  · intro t hv hz hk
    refine ⟨(), trivial, ⟨rfl, H1, hat1, hz, hk⟩, Nat.le_trans hS1.1 hz, fun q h1 h2 => ?_⟩
    rw [hk q (Nat.lt_of_lt_of_le h1 hS1.1)]
    exact hS1.2.1 q h1 h2
end XSH
