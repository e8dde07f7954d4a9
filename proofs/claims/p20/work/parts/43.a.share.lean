section XSH
/-- the words of the throw -/
def sh_N : String := "java/util/NoSuchElementException"
def sh_ns : List String := ["java/lang/RuntimeException", "java/lang/Exception"]
/-- words that stay, but are not of xG -/
def sh_b : List Cond := [.declares ⟨"java/lang/RuntimeException", "<init>", "()V"⟩, .declares ⟨"java/lang/Exception", "<init>", "()V"⟩, .declares ⟨"java/lang/Throwable", "<init>", "()V"⟩, .castable sh_N sh_N]
def sh_W (U : State) : Prop := ∀ w ∈ sh_b, w.before #[] U = true
theorem sh_bt : ∀ w ∈ sh_b, w.onTables = true := by decide
theorem sh_W.moved {s U : State} (hA : s.vm.Alike U.vm) (h : sh_W s) : sh_W U := by
  intro w hw
  refine va_tabs (sh_bt w hw) (rfl : (s.setVm U.vm).vm = U.vm) ?_ (A := #[])
  have h1 := h w hw
  unfold sh_b at hw
  simp only [List.mem_cons, List.not_mem_nil, or_false] at hw
  rcases hw with rfl | rfl | rfl | rfl
  · rw [Cond.declares_setVm hA]; exact h1
  · rw [Cond.declares_setVm hA]; exact h1
  · rw [Cond.declares_setVm hA]; exact h1
  · rw [Cond.castable_setVm hA]; exact h1
theorem sh_W.at {U : State} {args : Array Value} (h : sh_W U) {w : Cond} (hw : w ∈ sh_b) : w.before args U = true := va_tabs (sh_bt w hw) rfl (h w hw)
def sh_ck : List Cond → List (Nat × Nat) → Bool
  | [], [] => true
  | w :: ws, p :: ps => cond (Nat.beq p.1 9) (decide (sh_b[p.2]? = some w)) (xw_b p.1 p.2 w) && sh_ck ws ps
  | _, _ => false
theorem sh_ck_ok : ∀ (L : List Cond) (ps : List (Nat × Nat)), sh_ck L ps = true → ∀ w ∈ L, w ∈ xG ∨ w ∈ sh_b := by
  intro L
  induction L with
  | nil => intro ps h w hw; cases hw
  | cons w L ih =>
    intro ps h
    cases ps with
    | nil => cases h
    | cons q ps =>
      obtain ⟨h1, h2⟩ := xw_bb h
      intro w' hw
      rcases List.mem_cons.mp hw with rfl | hw
      · cases hq : Nat.beq q.1 9 with
        | true => rw [hq] at h1; exact Or.inr (List.mem_of_getElem? (of_decide_eq_true h1))
        | false => rw [hq] at h1; exact Or.inl (xw_in h1)
      · exact ih ps h2 w' hw
def sh_ps : List (Nat × Nat) := [(1, 18), (5, 16), (5, 25), (5, 27), (5, 30), (5, 32), (5, 17), (5, 18), (1, 28), (1, 29), (5, 19), (5, 24), (5, 28), (5, 44), (5, 6), (5, 45), (5, 8), (5, 46), (5, 10), (5, 20), (5, 22), (5, 12), (5, 34), (5, 35), (5, 36), (5, 37), (9, 0), (5, 37), (5, 38), (5, 39), (5, 40), (9, 1), (5, 40), (5, 41), (5, 42), (5, 17), (9, 2), (5, 33), (4, 235), (9, 3), (5, 3), (5, 4), (5, 5), (5, 7), (5, 9), (5, 11), (5, 15), (5, 14), (5, 13)]
set_option maxRecDepth 100000 in
theorem sh_at : ∀ w ∈ vx_at0 RX9 186 sh_N sh_ns, w ∈ xG ∨ w ∈ sh_b := sh_ck_ok _ sh_ps (by decide +kernel)
theorem sh_gd : ∀ w ∈ vx_at0 RX9 186 sh_N sh_ns, vx_ot w = true := fun w hw => by
  unfold vx_ot
  rcases sh_at w hw with h | h
  · rw [(List.mem_filter.mp h).2, Bool.or_true]
  · rw [sh_bt w h, Bool.true_or]
theorem sh_k : Cond.classLink RX9 184 sh_N ∈ xG := xw_in (K := 4) (i := 234) (by decide +kernel)
theorem sh_i : Cond.initialized sh_N ∈ xG := xw_in (K := 1) (i := 21) (by decide +kernel)
theorem sh_lc : Cond.classLink RL 13 sh_N ∈ xG := xw_in (K := 4) (i := 229) (by decide +kernel)
theorem sh_ca : Cond.castable sh_N sh_N ∈ sh_b := List.mem_of_getElem? (i := 3) rfl
theorem sh_lk : Cond.methodLink RL 68 yL_share ∈ xG := xw_in (K := 4) (i := 226) (by decide +kernel)
theorem sh_ls : Cond.static yL_share ∈ xG := xw_in (K := 4) (i := 227) (by decide +kernel)
theorem sh_lw : Cond.codeWith yL_share cL_share 6 (some .int) [(0, 11, 14, 13)] ∈ xG := xw_in (K := 4) (i := 228) (by decide +kernel)
theorem sh_li : Cond.initialized RL ∈ xG := xw_in (K := 1) (i := 0) (by decide +kernel)
theorem sh_l9 : Cond.methodLink RL 7 yX9_share ∈ xG := xw_in (K := 4) (i := 230) (by decide +kernel)
/-- fields that hold references have bounds of references -/
def rf_t (ty : FieldType) : Bool := match ty with
  | .object _ => true
  | .array _ => true
  | _ => false
def rf_ck : Bool := (List.range 72).all fun t => match a_sh[t]? with
  | some (0, ci) => (List.range (xh_N ci)).all fun k => !(rf_t (xh_ty ci k)) || (Nat.beq (a_ent a_tb (0, ci) t k).1 2 || Nat.beq (a_ent a_tb (0, ci) t k).1 3)
  | _ => true
set_option maxRecDepth 100000 in
theorem rf_ok : rf_ck = true := by decide +kernel
theorem rf_e {h : xh_H} {c k q : Nat} {e : Nat × Int × Int} (a : a_e h c k e) (hk : e.1 = 2 ∨ e.1 = 3) (hq : xg none h.2.2.2 c k = some q) : q < h.1.length := by
  obtain ⟨t, lo, hi⟩ := e
  have hk : t = 2 ∨ t = 3 := hk
  rcases hk with rfl | rfl
  · obtain ⟨q', h1, h2⟩ := a
    rw [h1] at hq
    cases hq
    exact h2.1
  · exact (a q hq).1
theorem rf_b {h : xh_H} (hi : a_inw a_tb h) {c ci k q : Nat} (hs : h.1[c]? = some (0, ci)) (hk : k < xh_N ci) (ht : rf_t (xh_ty ci k) = true) (hq : xg none h.2.2.2 c k = some q) : q < h.1.length := by
  obtain ⟨a1, a2⟩ := hi c _ hs
  have hc := (List.getElem?_eq_some_iff.mp a1).1
  have g := List.all_eq_true.mp rf_ok (a_tg c) (List.mem_range.mpr hc)
  rw [a1] at g
  have g2 := List.all_eq_true.mp g k (List.mem_range.mpr hk)
  rw [ht] at g2
  have g3 : (Nat.beq (a_ent a_tb (0, ci) (a_tg c) k).1 2 || Nat.beq (a_ent a_tb (0, ci) (a_tg c) k).1 3) = true := g2
  rw [Bool.or_eq_true] at g3
  exact rf_e (a2 k hk) (g3.imp xw_beq xw_beq) hq
theorem rf_5 {h : xh_H} (hi : a_inw a_tb h) {c n k q : Nat} (hs : h.1[c]? = some (5, n)) (hk : k < n) (hq : xg none h.2.2.2 c k = some q) : q < h.1.length := by
  obtain ⟨a1, a2⟩ := hi c _ hs
  have hc : a_tg c < 72 := (List.getElem?_eq_some_iff.mp a1).1
  have g : ∀ t, t < 72 → a_sh[t]? = some (5, n) → (a_ent a_tb (5, n) t k).1 = 3 := by
    intro t ht hs'
    have g0 : (List.range 72).all (fun t => match a_sh[t]? with
      | some (5, _) => Nat.beq t 13
      | _ => true) = true := by decide
    have g1 := List.all_eq_true.mp g0 t (List.mem_range.mpr ht)
    rw [hs'] at g1
    have g2 : t = 13 := xw_beq g1
    subst g2
    rfl
  exact rf_e (a2 k hk) (Or.inr (g _ hc a1)) hq
def sh_ad (ad : Nat → Nat) (n sz : Nat) (k : Nat) : Nat := if k < n then ad k else sz + (k - n)
theorem arrV_cg {cA : ClassId} {n : Nat} {f g : Nat → Value} (e : ∀ j, j < n → f j = g j) : arrV cA n f = arrV cA n g := by
  unfold arrV
  congr 1
  apply congrArg
  funext j
  exact e j.val j.isLt
/-- the heap has grown by what is not ours -/
theorem sh_grow {D : va_G} {cy : Nat → ClassId} {ad : Nat → Nat} {A : Nat → Prop} {h : xh_H} {H1 H2 : Heap} (hi : a_inw a_tb h) (hat : xh_at D cy ad A h H1) (hk : ∀ q : Nat, q < H1.size → H2[q]? = H1[q]?) : xh_at D cy (sh_ad ad h.1.length H2.size) A h H2 := by
  have el : ∀ k, k < h.1.length → sh_ad ad h.1.length H2.size k = ad k := fun k z => if_pos z
  have gt : ∀ (k : Nat) (q : Nat × va_E), (xh_ws (sh_ad ad h.1.length H2.size) cy h)[k]? = some q → ∃ sh : Nat × Nat, h.1[k]? = some sh ∧ q = (ad k, xh_e (sh_ad ad h.1.length H2.size) cy h k sh) := by
    intro k q hq
    rw [xh_ws_get] at hq
    cases hs : h.1[k]? with
    | none => rw [hs] at hq; cases hq
    | some sh =>
      rw [hs] at hq
      have := (List.getElem?_eq_some_iff.mp hs).1
      refine ⟨sh, rfl, ?_⟩
      rw [← el k this]
      exact (Option.some.inj hq).symm
  refine ⟨fun k q hq => ?_, ⟨fun i j p q hp hq e => ?_, fun k q hq => ?_⟩, fun j => ?_⟩
  · obtain ⟨sh, hs, rfl⟩ := gt k q hq
    have w0 := xh_ws_at (ad := ad) (cy := cy) hs
    have w1 : va_at D vwCl (ad k, xh_e ad cy h k sh) H2 := (hat.1 k _ w0).kept (hk _ (vx_lt hat.1 w0))
    obtain ⟨kd, n⟩ := sh
    match kd, hs, w1 with
    | 0, hs, w1 =>
      have e : xh_e (sh_ad ad h.1.length H2.size) cy h k (0, n) = xh_e ad cy h k (0, n) := by
        show Sum.inr (n, (List.range (xh_N n)).map (fun j => xh_fv (sh_ad ad h.1.length H2.size) h k (xh_ty n j) j)) = Sum.inr (n, (List.range (xh_N n)).map (fun j => xh_fv ad h k (xh_ty n j) j))
        refine congrArg (fun z => Sum.inr (n, z)) (List.map_congr_left (fun j hj => ?_))
        have hj := List.mem_range.mp hj
        have hm : rf_t (xh_ty n j) = true → (xg none h.2.2.2 k j).map (sh_ad ad h.1.length H2.size) = (xg none h.2.2.2 k j).map ad := by
          intro ht
          cases hx : xg none h.2.2.2 k j with
          | none => rfl
          | some q => exact congrArg some (el q (rf_b hi hs hj ht hx))
        cases ht : xh_ty n j <;> first | rfl | (unfold xh_fv; exact congrArg va_rf (hm (by rw [ht]; rfl)))
      rw [e]
      exact w1
    | 1, _, w1 => exact w1
    | 2, _, w1 => exact w1
    | 3, _, w1 => exact w1
    | 4, _, w1 => exact w1
    | 5, hs, w1 =>
      have w2 : H2[ad k]? = some (arrV (cy 5) n (fun j => va_rf ((xg none h.2.2.2 k j).map ad))) := w1
      show H2[ad k]? = some (arrV (cy 5) n (fun j => va_rf ((xg none h.2.2.2 k j).map (sh_ad ad h.1.length H2.size))))
      rw [w2]
      refine congrArg some (arrV_cg (fun j hj => ?_))
      cases hx : xg none h.2.2.2 k j with
      | none => rfl
      | some q => exact congrArg va_rf (congrArg some (el q (rf_5 hi hs hj hx)).symm)
    | m + 6, _, w1 => exact w1
  · obtain ⟨s1, hs1, rfl⟩ := gt i p hp
    obtain ⟨s2, hs2, rfl⟩ := gt j q hq
    exact hat.2.1.1 i j _ _ (xh_ws_at hs1) (xh_ws_at hs2) e
  · obtain ⟨s1, hs1, rfl⟩ := gt k q hq
    exact hat.2.1.2 k (ad k, xh_e ad cy h k s1) (xh_ws_at hs1)
  · unfold sh_ad
    rw [if_neg (by omega)]
    omega
def sh_U (A : Nat → Prop) (U : State) : Prop := vx_Zq Bundle.tN "UNASSIGNED_STACK" Bundle.steD A U U.heap ∧ vx_Zq Bundle.tN "SUPPRESSED_SENTINEL" Bundle.listD A U U.heap ∧ sh_W U
def sh_P (D : va_G) (cy : Nat → ClassId) (ad sp : Nat → Nat) (h : xh_H) (sz : Nat) (U : State) : Prop := xq_P D cy ad sp h sz U ∧ sh_U (va_A (xh_ws ad cy h) sz) U
variable {p : Program} {l : Launch} {e : Env} {R : Room} {s : State} {m : MethodId} {args : Array Value} {below : List Frame} {meth : Method} {c : Code} {H : Heap} {locs : List Loc} {cells slots : Nat} {Q : State → Prop}
variable {cc : ByteArray} {ls : Array Slot} {D : va_G} {A : Nat → Prop} {ad sp : Nat → Nat} {cy : Nat → ClassId} {nL : Nat} {own : String} {ini : Bool}
theorem sh_blind (vs : List Value) (h : xh_H) (sz : Nat) : FrameBlind (va_Pc vs (sh_P D cy ad sp h sz)) := by
  intro a U g mk hp
  obtain ⟨h0, h1, h2, h3, h4⟩ := hp
  have b := xq_blind (D := D) (cy := cy) (ad := ad) (sp := sp) vs h sz a U g mk ⟨h0, h1⟩
  exact ⟨b.1, b.2, vx_Zq.moved (u := U) (U := U.calling g mk a) (Vm.Alike.refl U.vm) h2, vx_Zq.moved (u := U) (U := U.calling g mk a) (Vm.Alike.refl U.vm) h3, sh_W.moved (s := U) (U := U.calling g mk a) (Vm.Alike.refl U.vm) h4⟩
theorem sh_pre {h : xh_H} {vs : List Value} (X : xc_X p s m args meth c cc nL own ini D cy A sp) (hat : xh_at D cy ad A h H) (hS : va_S A s.heap H locs) (hU : sh_U A s) : ∀ U : State, U.heap = H → s.WarmedH U.vm → va_Pc vs (sh_P D cy ad sp h H.size) vs.toArray U := by
  intro U hU0 hW
  have b := xq_pre (vs := vs) X hat hS U hU0 hW
  have hf := xq_free hat hS X.2.2.2.2.2.2.1
  refine ⟨b.1, b.2, ?_, ?_, hU.2.2.moved hW.alike⟩
  · rw [hU0]; exact vx_Zq.moved hW.alike ((hU.1.kept hS.2.1).narrow hf)
  · rw [hU0]; exact vx_Zq.moved hW.alike ((hU.2.1.kept hS.2.1).narrow hf)
/-- what is known behind a throw: our cells as they were, the heap grown -/
def sh_B (D : va_G) (cy : Nat → ClassId) (ad : Nat → Nat) (A : Nat → Prop) (h : xh_H) (t : State) : Prop := ∃ H1 : Heap, xh_at D cy ad A h H1 ∧ H1.size ≤ t.heap.size ∧ ∀ q : Nat, q < H1.size → t.heap[q]? = H1[q]?
set_option maxHeartbeats 4000000 in
theorem sh_thr {f : Nat} {As : List Value} {h : xh_H} {lv' : List (Nat × Value)} (he : xe_u xM xC none 26 f 48 xi_X9_share xmi_X9_share (0, lv_args 0 As, [], h, 0, 0) = some (26, lv', [], h, 0, 0)) (hfit : xm_cat As ≤ 11) (l : Launch) (hl : l.stackTraces = false) (sz : Nat) : vx_Met l yX9_share (Cond.code yX9_share cX9_share 11 (some .long) :: xG) (xm_rm 48 1 6) (va_Pc (As.map (xh_v ad sp)) (sh_P D cy ad sp h sz)) (va_Ql (fun _ (_ : Unit) => False) (fun _ _ => True) (va_A (xh_ws ad cy h) sz)) (vx_X (fun _ : Unit => True) (fun E _ t => E = sh_N ∧ sh_B D cy ad (va_A (xh_ws ad cy h) sz) h t) (va_A (xh_ws ad cy h) sz)) 1 6 (va_A (xh_ws ad cy h) sz) := by
  refine vx_ofW (cc := cX9_share) (maxL := 11) (ret := some .long) (by decide) rfl ?_
  intro p e s m args below meth c s₁ B hml hexc hv
  obtain ⟨rfl, ⟨hsz, hat, hK, hO⟩, hU, hN, hW⟩ := hv
  have hts := atoms_spec (ws := Cond.code yX9_share cX9_share 11 (some .long) :: xG) B.pre
  have hG : ∀ w ∈ xG, w.before (As.map (xh_v ad sp)).toArray s = true := fun w hw => hts w (List.mem_cons_of_mem _ hw)
  have hown : s.vm.findClass RX9 = some m.cls := findClass_of_methodNamed B.named
  have hl0 := lv_entry (As.map (xh_v ad sp)) (n := 11) (by rw [lg_sl_len, xm_cat_m]; exact hfit)
  rw [lv_args_m] at hl0
  rw [lg_entry_eq]
  subst hsz
  have hD := hat.2.1.self (sz := s.heap.size)
  have X : xc_X p s m (As.map (xh_v ad sp)).toArray meth c xmi_X9_share.2.2.1 xmi_X9_share.2.2.2.1 xmi_X9_share.1 (xm_ini xmi_X9_share) D cy (va_A (xh_ws ad cy h) s.heap.size) sp := ⟨B.exec, B.bytes, hml, hown, hG, hK, fun q hq => Or.inr hq, hO, fun z => by cases z⟩
  refine xS_u xP (mid := xi_X9_share) (mi := xmi_X9_share) rfl X (scr := none) (fun L xs z => by cases z) f 48 0 _ [] h 0 0 26 lv' [] h 0 0 _ _ _ he ⟨Nat.le_refl _, Nat.le_refl _, Nat.zero_le _, Nat.zero_le _⟩ ⟨⟨hat.1, hD, hat.2.2⟩, va_S.rf, hl0⟩ ?_
  intro H1 locs1 ls1 S1
  obtain ⟨hat1, hS1, hl1⟩ := S1
  refine vx_throw0 (own := RX9) (cls := sh_N) (names := sh_ns) (ik := 184) (ic := 186) (A := va_A (xh_ws ad cy h) s.heap.size) (rest := []) B.exec B.bytes hl hown (by decide) (by decide) (hG _ sh_k) (hG _ sh_i) (fun w hw => (sh_at w hw).elim (fun h => hG w h) (fun h => hW.at h)) ?_ hU hN hS1 (hl1.1.trans hml.symm) (by decide +kernel) (by decide +kernel) (by decide +kernel) (by decide +kernel) (fun x hx => (hexc x hx).elim) (Nat.le_of_ble_eq_true rfl) (Nat.le_of_ble_eq_true rfl) (Nat.le_of_ble_eq_true rfl) (Nat.le_of_ble_eq_true rfl) B.notSynchronized ?_ hS1.2.2 (by decide) (by decide)
  · intro w hw
    rcases List.mem_cons.mp hw with rfl | hw
    · unfold vx_ot; rw [(List.mem_filter.mp sh_k).2, Bool.or_true]
    · rcases List.mem_cons.mp hw with rfl | hw
      · unfold vx_ot; rw [(List.mem_filter.mp sh_i).2, Bool.or_true]
      · exact sh_gd w hw
  · intro t hv hz hk
    refine ⟨(), trivial, ⟨rfl, H1, hat1, hz, hk⟩, Nat.le_trans hS1.1 hz, fun q h1 h2 => ?_⟩
    rw [hk q (Nat.lt_of_lt_of_le h1 hS1.1)]
    exact hS1.2.1 q h1 h2
end XSH
