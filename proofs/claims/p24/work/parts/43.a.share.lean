section
section XSH
/-- the words of the throw -/
def sh_N : String := "java/util/NoSuchElementException"
def sh_ns : List String := ["java/lang/RuntimeException", "java/lang/Exception"]
/-- words that stay, but are not of xG -/
def sh_b : List Cond := [.declares ⟨"java/lang/RuntimeException", "<init>", "()V"⟩, .declares ⟨"java/lang/Exception", "<init>", "()V"⟩, .declares ⟨"java/lang/Throwable", "<init>", "()V"⟩, .castable sh_N sh_N]
def sh_W (U : State) : Prop := ∀ w ∈ sh_b, w.before #[] U = true
theorem sh_bt : ∀ w ∈ sh_b, w.onTables = true := by decide
theorem sh_W.moved {s U : State} (hA : s.vm.Alike U.vm) (h : sh_W s) : sh_W U := by
  intro w hw
  refine va_tabs (sh_bt w hw) (rfl : (s.setVm U.vm).vm = U.vm) ?_ (A := #[])
  have h1 := h w hw
  unfold sh_b at hw
  simp only [List.mem_cons, List.not_mem_nil, or_false] at hw
  rcases hw with rfl | rfl | rfl | rfl
  · rw [Cond.declares_setVm hA]; exact h1
  · rw [Cond.declares_setVm hA]; exact h1
  · rw [Cond.declares_setVm hA]; exact h1
  · rw [Cond.castable_setVm hA]; exact h1
theorem sh_W.at {U : State} {args : Array Value} (h : sh_W U) {w : Cond} (hw : w ∈ sh_b) : w.before args U = true := va_tabs (sh_bt w hw) rfl (h w hw)
def sh_ck : List Cond → List (Nat × Nat) → Bool
  | [], [] => true
  | w :: ws, p :: ps => cond (Nat.beq p.1 9) (decide (sh_b[p.2]? = some w)) (xw_b p.1 p.2 w) && sh_ck ws ps
  | _, _ => false
theorem sh_ck_ok : ∀ (L : List Cond) (ps : List (Nat × Nat)), sh_ck L ps = true → ∀ w ∈ L, w ∈ xG ∨ w ∈ sh_b := by
  intro L
  induction L with
  | nil => intro ps h w hw; cases hw
  | cons w L ih =>
    intro ps h
    cases ps with
    | nil => cases h
    | cons q ps =>
      obtain ⟨h1, h2⟩ := xw_bb h
      intro w' hw
      rcases List.mem_cons.mp hw with rfl | hw
      · cases hq : Nat.beq q.1 9 with
        | true => rw [hq] at h1; exact Or.inr (List.mem_of_getElem? (of_decide_eq_true h1))
        | false => rw [hq] at h1; exact Or.inl (xw_in h1)
      · exact ih ps h2 w' hw
def sh_ps : List (Nat × Nat) := [(1, 18), (5, 16), (5, 25), (5, 27), (5, 30), (5, 32), (5, 17), (5, 18), (1, 28), (1, 29), (5, 19), (5, 24), (5, 28), (5, 44), (5, 6), (5, 45), (5, 8), (5, 46), (5, 10), (5, 20), (5, 22), (5, 12), (5, 34), (5, 35), (5, 36), (5, 37), (9, 0), (5, 37), (5, 38), (5, 39), (5, 40), (9, 1), (5, 40), (5, 41), (5, 42), (5, 17), (9, 2), (5, 33), (4, 235), (9, 3), (5, 3), (5, 4), (5, 5), (5, 7), (5, 9), (5, 11), (5, 15), (5, 14), (5, 13)]
set_option maxRecDepth 100000 in
theorem sh_at : ∀ w ∈ vx_at0 RX9 186 sh_N sh_ns, w ∈ xG ∨ w ∈ sh_b := sh_ck_ok _ sh_ps (by decide +kernel)
theorem sh_gd : ∀ w ∈ vx_at0 RX9 186 sh_N sh_ns, vx_ot w = true := fun w hw => by
  unfold vx_ot
  rcases sh_at w hw with h | h
  · rw [(List.mem_filter.mp h).2, Bool.or_true]
  · rw [sh_bt w h, Bool.true_or]
theorem sh_k : Cond.classLink RX9 184 sh_N ∈ xG := xw_in (K := 4) (i := 234) (by decide +kernel)
theorem sh_i : Cond.initialized sh_N ∈ xG := xw_in (K := 1) (i := 21) (by decide +kernel)
theorem sh_lc : Cond.classLink RL 13 sh_N ∈ xG := xw_in (K := 4) (i := 229) (by decide +kernel)
theorem sh_ca : Cond.castable sh_N sh_N ∈ sh_b := List.mem_of_getElem? (i := 3) rfl
theorem sh_lk : Cond.methodLink RL 68 yL_share ∈ xG := xw_in (K := 4) (i := 226) (by decide +kernel)
theorem sh_ls : Cond.static yL_share ∈ xG := xw_in (K := 4) (i := 227) (by decide +kernel)
theorem sh_lw : Cond.codeWith yL_share cL_share 6 (some .int) [(0, 11, 14, 13)] ∈ xG := xw_in (K := 4) (i := 228) (by decide +kernel)
theorem sh_li : Cond.initialized RL ∈ xG := xw_in (K := 1) (i := 0) (by decide +kernel)
theorem sh_l9 : Cond.methodLink RL 7 yX9_share ∈ xG := xw_in (K := 4) (i := 230) (by decide +kernel)
/-- fields that hold references have bounds of references -/
def rf_t (ty : FieldType) : Bool := match ty with
  | .object _ => true
  | .array _ => true
  | _ => false
def rf_ck : Bool := (List.range 72).all fun t => match a_sh[t]? with
  | some (0, ci) => (List.range (xh_N ci)).all fun k => !(rf_t (xh_ty ci k)) || (Nat.beq (a_ent a_tb (0, ci) t k).1 2 || Nat.beq (a_ent a_tb (0, ci) t k).1 3)
  | _ => true
set_option maxRecDepth 100000 in
theorem rf_ok : rf_ck = true := by decide +kernel
theorem rf_e {h : xh_H} {c k q : Nat} {e : Nat × Int × Int} (a : a_e h c k e) (hk : e.1 = 2 ∨ e.1 = 3) (hq : xg none h.2.2.2 c k = some q) : q < h.1.length := by
  obtain ⟨t, lo, hi⟩ := e
  have hk : t = 2 ∨ t = 3 := hk
  rcases hk with rfl | rfl
  · obtain ⟨q', h1, h2⟩ := a
    rw [h1] at hq
    cases hq
    exact h2.1
  · exact (a q hq).1
theorem rf_b {h : xh_H} (hi : a_inw a_tb h) {c ci k q : Nat} (hs : h.1[c]? = some (0, ci)) (hk : k < xh_N ci) (ht : rf_t (xh_ty ci k) = true) (hq : xg none h.2.2.2 c k = some q) : q < h.1.length := by
  obtain ⟨a1, a2⟩ := hi c _ hs
  have hc := (List.getElem?_eq_some_iff.mp a1).1
  have g := List.all_eq_true.mp rf_ok (a_tg c) (List.mem_range.mpr hc)
  rw [a1] at g
  have g2 := List.all_eq_true.mp g k (List.mem_range.mpr hk)
  rw [ht] at g2
  have g3 : (Nat.beq (a_ent a_tb (0, ci) (a_tg c) k).1 2 || Nat.beq (a_ent a_tb (0, ci) (a_tg c) k).1 3) = true := g2
  rw [Bool.or_eq_true] at g3
  exact rf_e (a2 k hk) (g3.imp xw_beq xw_beq) hq
theorem rf_5 {h : xh_H} (hi : a_inw a_tb h) {c n k q : Nat} (hs : h.1[c]? = some (5, n)) (hk : k < n) (hq : xg none h.2.2.2 c k = some q) : q < h.1.length := by
  obtain ⟨a1, a2⟩ := hi c _ hs
  have hc : a_tg c < 72 := (List.getElem?_eq_some_iff.mp a1).1
  have g : ∀ t, t < 72 → a_sh[t]? = some (5, n) → (a_ent a_tb (5, n) t k).1 = 3 := by
    intro t ht hs'
    have g0 : (List.range 72).all (fun t => match a_sh[t]? with
      | some (5, _) => Nat.beq t 13
      | _ => true) = true := by decide
    have g1 := List.all_eq_true.mp g0 t (List.mem_range.mpr ht)
    rw [hs'] at g1
    have g2 : t = 13 := xw_beq g1
    subst g2
    rfl
  exact rf_e (a2 k hk) (Or.inr (g _ hc a1)) hq
def sh_ad (ad : Nat → Nat) (n sz : Nat) (k : Nat) : Nat := if k < n then ad k else sz + (k - n)
theorem arrV_cg {cA : ClassId} {n : Nat} {f g : Nat → Value} (e : ∀ j, j < n → f j = g j) : arrV cA n f = arrV cA n g := by
  unfold arrV
  congr 1
  apply congrArg
  funext j
  exact e j.val j.isLt
/-- the heap has grown by what is not ours -/
theorem sh_grow {D : va_G} {cy : Nat → ClassId} {ad : Nat → Nat} {A : Nat → Prop} {h : xh_H} {H1 H2 : Heap} (hi : a_inw a_tb h) (hat : xh_at D cy ad A h H1) (hk : ∀ q : Nat, q < H1.size → H2[q]? = H1[q]?) : xh_at D cy (sh_ad ad h.1.length H2.size) A h H2 := by
  have el : ∀ k, k < h.1.length → sh_ad ad h.1.length H2.size k = ad k := fun k z => if_pos z
  have gt : ∀ (k : Nat) (q : Nat × va_E), (xh_ws (sh_ad ad h.1.length H2.size) cy h)[k]? = some q → ∃ sh : Nat × Nat, h.1[k]? = some sh ∧ q = (ad k, xh_e (sh_ad ad h.1.length H2.size) cy h k sh) := by
    intro k q hq
    rw [xh_ws_get] at hq
    cases hs : h.1[k]? with
    | none => rw [hs] at hq; cases hq
    | some sh =>
      rw [hs] at hq
      have := (List.getElem?_eq_some_iff.mp hs).1
      refine ⟨sh, rfl, ?_⟩
      rw [← el k this]
      exact (Option.some.inj hq).symm
  refine ⟨fun k q hq => ?_, ⟨fun i j p q hp hq e => ?_, fun k q hq => ?_⟩, fun j => ?_⟩
  · obtain ⟨sh, hs, rfl⟩ := gt k q hq
    have w0 := xh_ws_at (ad := ad) (cy := cy) hs
    have w1 : va_at D vwCl (ad k, xh_e ad cy h k sh) H2 := (hat.1 k _ w0).kept (hk _ (vx_lt hat.1 w0))
    obtain ⟨kd, n⟩ := sh
    match kd, hs, w1 with
    | 0, hs, w1 =>
      have e : xh_e (sh_ad ad h.1.length H2.size) cy h k (0, n) = xh_e ad cy h k (0, n) := by
        show Sum.inr (n, (List.range (xh_N n)).map (fun j => xh_fv (sh_ad ad h.1.length H2.size) h k (xh_ty n j) j)) = Sum.inr (n, (List.range (xh_N n)).map (fun j => xh_fv ad h k (xh_ty n j) j))
        refine congrArg (fun z => Sum.inr (n, z)) (List.map_congr_left (fun j hj => ?_))
        have hj := List.mem_range.mp hj
        have hm : rf_t (xh_ty n j) = true → (xg none h.2.2.2 k j).map (sh_ad ad h.1.length H2.size) = (xg none h.2.2.2 k j).map ad := by
          intro ht
          cases hx : xg none h.2.2.2 k j with
          | none => rfl
          | some q => exact congrArg some (el q (rf_b hi hs hj ht hx))
        cases ht : xh_ty n j <;> first | rfl | (unfold xh_fv; exact congrArg va_rf (hm (by rw [ht]; rfl)))
      rw [e]
      exact w1
    | 1, _, w1 => exact w1
    | 2, _, w1 => exact w1
    | 3, _, w1 => exact w1
    | 4, _, w1 => exact w1
    | 5, hs, w1 =>
      have w2 : H2[ad k]? = some (arrV (cy 5) n (fun j => va_rf ((xg none h.2.2.2 k j).map ad))) := w1
      show H2[ad k]? = some (arrV (cy 5) n (fun j => va_rf ((xg none h.2.2.2 k j).map (sh_ad ad h.1.length H2.size))))
      rw [w2]
      refine congrArg some (arrV_cg (fun j hj => ?_))
      cases hx : xg none h.2.2.2 k j with
      | none => rfl
      | some q => exact congrArg va_rf (congrArg some (el q (rf_5 hi hs hj hx)).symm)
    | m + 6, _, w1 => exact w1
  · obtain ⟨s1, hs1, rfl⟩ := gt i p hp
    obtain ⟨s2, hs2, rfl⟩ := gt j q hq
    exact hat.2.1.1 i j _ _ (xh_ws_at hs1) (xh_ws_at hs2) e
  · obtain ⟨s1, hs1, rfl⟩ := gt k q hq
    exact hat.2.1.2 k (ad k, xh_e ad cy h k s1) (xh_ws_at hs1)
  · unfold sh_ad
    rw [if_neg (by omega)]
    omega
def sh_U (A : Nat → Prop) (U : State) : Prop := vx_Zq Bundle.tN "UNASSIGNED_STACK" Bundle.steD A U U.heap ∧ vx_Zq Bundle.tN "SUPPRESSED_SENTINEL" Bundle.listD A U U.heap ∧ sh_W U
def sh_P (D : va_G) (cy : Nat → ClassId) (ad sp : Nat → Nat) (h : xh_H) (sz : Nat) (U : State) : Prop := xq_P D cy ad sp h sz U ∧ sh_U (va_A (xh_ws ad cy h) sz) U
variable {p : Program} {l : Launch} {e : Env} {R : Room} {s : State} {m : MethodId} {args : Array Value} {below : List Frame} {meth : Method} {c : Code} {H : Heap} {locs : List Loc} {cells slots : Nat} {Q : State → Prop}
variable {cc : ByteArray} {ls : Array Slot} {D : va_G} {A : Nat → Prop} {ad sp : Nat → Nat} {cy : Nat → ClassId} {nL : Nat} {own : String} {ini : Bool}
theorem sh_blind (vs : List Value) (h : xh_H) (sz : Nat) : FrameBlind (va_Pc vs (sh_P D cy ad sp h sz)) := by
  intro a U g mk hp
  obtain ⟨h0, h1, h2, h3, h4⟩ := hp
  have b := xq_blind (D := D) (cy := cy) (ad := ad) (sp := sp) vs h sz a U g mk ⟨h0, h1⟩
  exact ⟨b.1, b.2, vx_Zq.moved (u := U) (U := U.calling g mk a) (Vm.Alike.refl U.vm) h2, vx_Zq.moved (u := U) (U := U.calling g mk a) (Vm.Alike.refl U.vm) h3, sh_W.moved (s := U) (U := U.calling g mk a) (Vm.Alike.refl U.vm) h4⟩
theorem sh_pre {h : xh_H} {vs : List Value} (X : xc_X p s m args meth c cc nL own ini D cy A sp) (hat : xh_at D cy ad A h H) (hS : va_S A s.heap H locs) (hU : sh_U A s) : ∀ U : State, U.heap = H → s.WarmedH U.vm → va_Pc vs (sh_P D cy ad sp h H.size) vs.toArray U := by
  intro U hU0 hW
  have b := xq_pre (vs := vs) X hat hS U hU0 hW
  have hf := xq_free hat hS X.2.2.2.2.2.2.1
  refine ⟨b.1, b.2, ?_, ?_, hU.2.2.moved hW.alike⟩
  · rw [hU0]; exact vx_Zq.moved hW.alike ((hU.1.kept hS.2.1).narrow hf)
  · rw [hU0]; exact vx_Zq.moved hW.alike ((hU.2.1.kept hS.2.1).narrow hf)
/-- what is known behind a throw: our cells as they were, the heap grown -/
def sh_B (D : va_G) (cy : Nat → ClassId) (ad : Nat → Nat) (A : Nat → Prop) (h : xh_H) (t : State) : Prop := ∃ H1 : Heap, xh_at D cy ad A h H1 ∧ H1.size ≤ t.heap.size ∧ ∀ q : Nat, q < H1.size → t.heap[q]? = H1[q]?
set_option maxHeartbeats 4000000 in
theorem sh_thr {f : Nat} {As : List Value} {h : xh_H} {lv' : List (Nat × Value)} (he : xe_u xM xC none 26 f 48 xi_X9_share xmi_X9_share (0, lv_args 0 As, [], h, 0, 0) = some (26, lv', [], h, 0, 0)) (hfit : xm_cat As ≤ 11) (l : Launch) (hl : l.stackTraces = false) (sz : Nat) : vx_Met l yX9_share (Cond.code yX9_share cX9_share 11 (some .long) :: xG) (xm_rm 48 1 6) (va_Pc (As.map (xh_v ad sp)) (sh_P D cy ad sp h sz)) (va_Ql (fun _ (_ : Unit) => False) (fun _ _ => True) (va_A (xh_ws ad cy h) sz)) (vx_X (fun _ : Unit => True) (fun E _ t => E = sh_N ∧ sh_B D cy ad (va_A (xh_ws ad cy h) sz) h t) (va_A (xh_ws ad cy h) sz)) 1 6 (va_A (xh_ws ad cy h) sz) := by
  refine vx_ofW (cc := cX9_share) (maxL := 11) (ret := some .long) (by decide) rfl ?_
  intro p e s m args below meth c s₁ B hml hexc hv
  obtain ⟨rfl, ⟨hsz, hat, hK, hO⟩, hU, hN, hW⟩ := hv
  have hts := atoms_spec (ws := Cond.code yX9_share cX9_share 11 (some .long) :: xG) B.pre
  have hG : ∀ w ∈ xG, w.before (As.map (xh_v ad sp)).toArray s = true := fun w hw => hts w (List.mem_cons_of_mem _ hw)
  have hown : s.vm.findClass RX9 = some m.cls := findClass_of_methodNamed B.named
  have hl0 := lv_entry (As.map (xh_v ad sp)) (n := 11) (by rw [lg_sl_len, xm_cat_m]; exact hfit)
  rw [lv_args_m] at hl0
  rw [lg_entry_eq]
  subst hsz
  have hD := hat.2.1.self (sz := s.heap.size)
  have X : xc_X p s m (As.map (xh_v ad sp)).toArray meth c xmi_X9_share.2.2.1 xmi_X9_share.2.2.2.1 xmi_X9_share.1 (xm_ini xmi_X9_share) D cy (va_A (xh_ws ad cy h) s.heap.size) sp := ⟨B.exec, B.bytes, hml, hown, hG, hK, fun q hq => Or.inr hq, hO, fun z => by cases z⟩
  refine xS_u xP (mid := xi_X9_share) (mi := xmi_X9_share) rfl X (scr := none) (fun L xs z => by cases z) f 48 0 _ [] h 0 0 26 lv' [] h 0 0 _ _ _ he ⟨Nat.le_refl _, Nat.le_refl _, Nat.zero_le _, Nat.zero_le _⟩ ⟨⟨hat.1, hD, hat.2.2⟩, va_S.rf, hl0⟩ ?_
  intro H1 locs1 ls1 S1
  obtain ⟨hat1, hS1, hl1⟩ := S1
  refine vx_throw0 (own := RX9) (cls := sh_N) (names := sh_ns) (ik := 184) (ic := 186) (A := va_A (xh_ws ad cy h) s.heap.size) (rest := []) B.exec B.bytes hl hown (by decide) (by decide) (hG _ sh_k) (hG _ sh_i) (fun w hw => (sh_at w hw).elim (fun h => hG w h) (fun h => hW.at h)) ?_ hU hN hS1 (hl1.1.trans hml.symm) (by decide +kernel) (by decide +kernel) (by decide +kernel) (by decide +kernel) (fun x hx => (hexc x hx).elim) (Nat.le_of_ble_eq_true rfl) (Nat.le_of_ble_eq_true rfl) (Nat.le_of_ble_eq_true rfl) (Nat.le_of_ble_eq_true rfl) B.notSynchronized ?_ hS1.2.2 (by decide) (by decide)
  · intro w hw
    rcases List.mem_cons.mp hw with rfl | hw
    · unfold vx_ot; rw [(List.mem_filter.mp sh_k).2, Bool.or_true]
    · rcases List.mem_cons.mp hw with rfl | hw
      · unfold vx_ot; rw [(List.mem_filter.mp sh_i).2, Bool.or_true]
      · exact sh_gd w hw
  · intro t hv hz hk
    refine ⟨(), trivial, ⟨rfl, H1, hat1, hz, hk⟩, Nat.le_trans hS1.1 hz, fun q h1 h2 => ?_⟩
    rw [hk q (Nat.lt_of_lt_of_le h1 hS1.1)]
    exact hS1.2.1 q h1 h2
end XSH
end
section
section XSI
variable {p : Program} {l : Launch} {e : Env} {R : Room} {s : State} {m : MethodId} {args : Array Value} {below : List Frame} {meth : Method} {c : Code} {H : Heap} {locs : List Loc} {cells slots : Nat} {Q : State → Prop}
variable {ls : Array Slot} {D : va_G} {A : Nat → Prop} {ad sp : Nat → Nat} {cy : Nat → ClassId}
def ls_lv (a b d : Int32) : List (Nat × Value) := lv_args 0 [.ref 0, .int a, .int b, .int d, .ref 71]
set_option maxRecDepth 100000 in
set_option maxHeartbeats 4000000 in
/-- the law's share, up to its call -/
theorem ls_pre (X : xc_X p s m args meth c cL_share 6 RL false D cy A sp) {a b d : Int32} {h : xh_H} (hR : 49 ≤ R.frames ∧ 40 * 49 ≤ R.locals) (S : xc_S D cy ad sp A s 6 h (ls_lv a b d) H locs ls)
    (kk : ∀ (H1 : Heap) (locs1 : List Loc) (ls1 : Array Slot), xc_S D cy ad sp A s 6 h (ls_lv a b d) H1 locs1 ls1 → W p l e R s m args below meth c H1 locs1 0 0 Q (F0 m 7 ls1 (([.int d, .int b, .int a, .ref 0, .int 0, .ref 71] : List Value).map (xh_v ad sp)))) :
    W p l e R s m args below meth c H locs 0 0 Q (F0 m 0 ls (([] : List Value).map (xh_v ad sp))) := by
  have hn : ∀ (L : Nat) (xs : Nat → Int32), (none : Option (Nat × (Nat → Int32))) = some (L, xs) → va_X (sp 0) L xs s s.heap ∧ sp 0 < s.heap.size ∧ ¬ A (sp 0) := fun L xs z => by cases z
  have hz : (0 : Nat) ≤ R.cells ∧ (0 : Nat) ≤ R.slots := ⟨Nat.zero_le _, Nat.zero_le _⟩
  refine xe_2_ok (scr := none) (M := xM) (d := 49) (r := (.aload 4, 2, 0, 0, 0, 0)) (lv := ls_lv a b d) (st := []) (h := h) (pc' := 2) (lv' := ls_lv a b d) (st' := [.ref 71]) (h' := h) (cells' := 0) (slots' := 0) xP.2 X (by decide +kernel) rfl rfl hR hz hn S ?_
  intro H1 locs1 ls1 S
  refine xe_2_ok (scr := none) (M := xM) (d := 49) (r := (.iconst 0, 1, 0, 0, 0, 0)) (lv := ls_lv a b d) (st := [.ref 71]) (h := h) (pc' := 3) (lv' := ls_lv a b d) (st' := [.int 0, .ref 71]) (h' := h) (cells' := 0) (slots' := 0) xP.2 X (by decide +kernel) rfl rfl hR hz hn S ?_
  intro H1 locs1 ls1 S
  refine xe_2_ok (scr := none) (M := xM) (d := 49) (r := (.aload_n 0, 1, 0, 0, 0, 0)) (lv := ls_lv a b d) (st := [.int 0, .ref 71]) (h := h) (pc' := 4) (lv' := ls_lv a b d) (st' := [.ref 0, .int 0, .ref 71]) (h' := h) (cells' := 0) (slots' := 0) xP.2 X (by decide +kernel) rfl rfl hR hz hn S ?_
  intro H1 locs1 ls1 S
  refine xe_2_ok (scr := none) (M := xM) (d := 49) (r := (.iload_n 1, 1, 0, 0, 0, 0)) (lv := ls_lv a b d) (st := [.ref 0, .int 0, .ref 71]) (h := h) (pc' := 5) (lv' := ls_lv a b d) (st' := [.int a, .ref 0, .int 0, .ref 71]) (h' := h) (cells' := 0) (slots' := 0) xP.2 X (by decide +kernel) rfl rfl hR hz hn S ?_
  intro H1 locs1 ls1 S
  refine xe_2_ok (scr := none) (M := xM) (d := 49) (r := (.iload_n 2, 1, 0, 0, 0, 0)) (lv := ls_lv a b d) (st := [.int a, .ref 0, .int 0, .ref 71]) (h := h) (pc' := 6) (lv' := ls_lv a b d) (st' := [.int b, .int a, .ref 0, .int 0, .ref 71]) (h' := h) (cells' := 0) (slots' := 0) xP.2 X (by decide +kernel) rfl rfl hR hz hn S ?_
  intro H1 locs1 ls1 S
  refine xe_2_ok (scr := none) (M := xM) (d := 49) (r := (.iload_n 3, 1, 0, 0, 0, 0)) (lv := ls_lv a b d) (st := [.int b, .int a, .ref 0, .int 0, .ref 71]) (h := h) (pc' := 7) (lv' := ls_lv a b d) (st' := [.int d, .int b, .int a, .ref 0, .int 0, .ref 71]) (h' := h) (cells' := 0) (slots' := 0) xP.2 X (by decide +kernel) rfl rfl hR hz hn S ?_
  intro H1 locs1 ls1 S
  exact kk H1 locs1 ls1 S
theorem ls_st {h1 : xh_H} {v : Int64} (h71 : h1.1[71]? = some (4, 1)) (lv : List (Nat × Value)) : xe_2 none 6 (.lastore, 1, 0, 0, 0, 0) 49 10 lv [.long v, .int 0, .ref 71] h1 0 0 = some (11, lv, [], xh_ul h1 71 0 v, 0, 0) := by
  have e : xe_in 0 1 = true := by decide
  have e2 : (0 : Int32).toNatClampNeg = 0 := by decide
  simp [xe_2, xe_1, xp_lir, h71, e, e2]
theorem ls_fit (a b d : Int32) : xm_cat [.ref 0, .int a, .int b, .int d, .ref 71] ≤ 6 := Nat.le_of_ble_eq_true rfl
set_option maxRecDepth 100000 in
set_option maxHeartbeats 4000000 in
/-- the law's share where the class's share returns -/
theorem ls_ret {f : Nat} {a b d : Int32} {h h1 : xh_H} {v : Int64} (he : xe_x xM xC none f 48 xi_X9_share xmi_X9_share (0, lv_args 0 [.ref 0, .int a, .int b, .int d], [], h, 0, 0) = some (some (.long v), h1, 0, 0)) (h0 : h.1[0]? = some (0, 9)) (h71 : h1.1[71]? = some (4, 1)) (l : Launch) (sz : Nat) :
    Met l yL_share (Cond.codeWith yL_share cL_share 6 (some .int) [(0, 11, 14, 13)] :: xG) (xm_rm 49 0 0) (va_Pc (([.ref 0, .int a, .int b, .int d, .ref 71] : List Value).map (xh_v ad sp)) (xq_P D cy ad sp h sz)) (xq_Q D cy ad sp (some (.int 0)) (xh_ul h1 71 0 v) (va_A (xh_ws ad cy h) sz)) 0 0 (va_A (xh_ws ad cy h) sz) := by
  refine va_MetW (cc := cL_share) (maxL := 6) (ret := some .int) (by decide) rfl ?_
  intro p e s m args below meth c s₁ B hml hv
  obtain ⟨rfl, hsz, hat, hK, hO⟩ := hv
  have hts := atoms_spec (ws := Cond.codeWith yL_share cL_share 6 (some .int) [(0, 11, 14, 13)] :: xG) B.pre
  have hown : s.vm.findClass RL = some m.cls := findClass_of_methodNamed B.named
  have hl0 := lv_entry (([.ref 0, .int a, .int b, .int d, .ref 71] : List Value).map (xh_v ad sp)) (n := 6) (by rw [lg_sl_len, xm_cat_m]; exact ls_fit a b d)
  rw [lv_args_m] at hl0
  rw [lg_entry_eq]
  subst hsz
  have hD := hat.2.1.self (sz := s.heap.size)
  have X : xc_X p s m (([.ref 0, .int a, .int b, .int d, .ref 71] : List Value).map (xh_v ad sp)).toArray meth c cL_share 6 RL false D cy (va_A (xh_ws ad cy h) s.heap.size) sp := ⟨B.exec, B.bytes, hml, hown, fun w hw => hts w (List.mem_cons_of_mem _ hw), hK, fun q hq => Or.inr hq, hO, fun z => by cases z⟩
  have hn : ∀ (L : Nat) (xs : Nat → Int32), (none : Option (Nat × (Nat → Int32))) = some (L, xs) → va_X (sp 0) L xs s s.heap ∧ sp 0 < s.heap.size ∧ ¬ va_A (xh_ws ad cy h) s.heap.size (sp 0) := fun L xs z => by cases z
  have hR : 49 ≤ (headSpec (Cond.codeWith yL_share cL_share 6 (some .int) [(0, 11, 14, 13)] :: xG) (xm_rm 49 0 0)).room.frames ∧ 40 * 49 ≤ (headSpec (Cond.codeWith yL_share cL_share 6 (some .int) [(0, 11, 14, 13)] :: xG) (xm_rm 49 0 0)).room.locals := ⟨Nat.le_refl 49, Nat.le_refl 1960⟩
  refine ls_pre X (h := h) (a := a) (b := b) (d := d) hR ⟨⟨hat.1, hD, hat.2.2⟩, va_S.rf, hl0⟩ ?_
  intro H1 locs1 ls1 S1
  refine xe_call_ok (mi := (RL, yL_share, cL_share, 6, some .int, 3, 5, 99)) (r := (.invokevirtual 7, 3, xi_X9_share, 0, 4, 230)) (d' := 48) (As := [.ref 0, .int a, .int b, .int d]) (q := [.int 0, .ref 71]) (mj := xmi_X9_share) (v1 := some (.long v)) (h1 := h1) (mc := 0) (ms := 0) (lv := ls_lv a b d) xP (xS_all xP f) (by decide +kernel) (by decide +kernel) ?_ he X hR ⟨Nat.le_refl _, Nat.le_refl _⟩ S1 ?_
  · unfold xe_cl
    show (match h.1[0]? with
      | some (0, ci) => _
      | _ => _) = _
    rw [h0]
    rfl
  intro H2 locs2 S2
  refine xe_2_ok (scr := none) (M := xM) (d := 49) (r := (.lastore, 1, 0, 0, 0, 0)) (lv := ls_lv a b d) (st := [.long v, .int 0, .ref 71]) (h := h1) (pc' := 11) (lv' := ls_lv a b d) (st' := []) (h' := xh_ul h1 71 0 v) (cells' := 0) (slots' := 0) xP.2 X (by decide +kernel) rfl (ls_st h71 _) hR ⟨Nat.le_refl _, Nat.le_refl _⟩ hn S2 ?_
  intro H3 locs3 ls3 S3
  refine xe_2_ok (scr := none) (M := xM) (d := 49) (r := (.goto 7, 3, 18, 0, 0, 0)) (lv := ls_lv a b d) (st := []) (h := xh_ul h1 71 0 v) (pc' := 18) (lv' := ls_lv a b d) (st' := []) (h' := xh_ul h1 71 0 v) (cells' := 0) (slots' := 0) xP.2 X (by decide +kernel) rfl rfl hR ⟨Nat.le_refl _, Nat.le_refl _⟩ hn S3 ?_
  intro H4 locs4 ls4 S4
  refine xe_2_ok (scr := none) (M := xM) (d := 49) (r := (.iconst 0, 1, 0, 0, 0, 0)) (lv := ls_lv a b d) (st := []) (h := xh_ul h1 71 0 v) (pc' := 19) (lv' := ls_lv a b d) (st' := [.int 0]) (h' := xh_ul h1 71 0 v) (cells' := 0) (slots' := 0) xP.2 X (by decide +kernel) rfl rfl hR ⟨Nat.le_refl _, Nat.le_refl _⟩ hn S4 ?_
  intro H5 locs5 ls5 S5
  exact xe_rv_ok (cc := cL_share) (nL := 6) (lv1 := ls_lv a b d) (ri := .ireturn) (ret := some .int) (st1 := [.int 0]) rfl B.exec B.bytes B.returns B.notSynchronized S5 (by decide +kernel)
set_option maxRecDepth 100000 in
set_option maxHeartbeats 4000000 in
/-- the law's share where the class's share throws -/
theorem ls_thr {f : Nat} {a b d : Int32} {h : xh_H} {lv' : List (Nat × Value)} (he : xe_u xM xC none 26 f 48 xi_X9_share xmi_X9_share (0, lv_args 0 [.ref 0, .int a, .int b, .int d], [], h, 0, 0) = some (26, lv', [], h, 0, 0)) (h0 : h.1[0]? = some (0, 9)) (l : Launch) (hl : l.stackTraces = false) (sz : Nat) :
    Met l yL_share (Cond.codeWith yL_share cL_share 6 (some .int) [(0, 11, 14, 13)] :: xG) (xm_rm 49 1 6) (va_Pc (([.ref 0, .int a, .int b, .int d, .ref 71] : List Value).map (xh_v ad sp)) (sh_P D cy ad sp h sz)) (fun _ st oc t => oc = .returned (some (.int 1)) ∧ sh_B D cy ad (va_A (xh_ws ad cy h) sz) h t ∧ va_F (va_A (xh_ws ad cy h) sz) st t) 1 6 (va_A (xh_ws ad cy h) sz) := by
  refine va_MetW (cc := cL_share) (maxL := 6) (ret := some .int) (by decide) rfl ?_
  intro p e s m args below meth c s₁ B hml hv
  obtain ⟨rfl, ⟨hsz, hat, hK, hO⟩, hU⟩ := hv
  have hts := atoms_spec (ws := Cond.codeWith yL_share cL_share 6 (some .int) [(0, 11, 14, 13)] :: xG) B.pre
  have hG : ∀ w ∈ xG, w.before (([.ref 0, .int a, .int b, .int d, .ref 71] : List Value).map (xh_v ad sp)).toArray s = true := fun w hw => hts w (List.mem_cons_of_mem _ hw)
  have htab : c.exceptionTable.toList = tableOf [(0, 11, 14, 13)] := vx_table (x := yL_share) B (hts _ List.mem_cons_self)
  have hown : s.vm.findClass RL = some m.cls := findClass_of_methodNamed B.named
  have hl0 := lv_entry (([.ref 0, .int a, .int b, .int d, .ref 71] : List Value).map (xh_v ad sp)) (n := 6) (by rw [lg_sl_len, xm_cat_m]; exact ls_fit a b d)
  rw [lv_args_m] at hl0
  rw [lg_entry_eq]
  subst hsz
  have hD := hat.2.1.self (sz := s.heap.size)
  have X : xc_X p s m (([.ref 0, .int a, .int b, .int d, .ref 71] : List Value).map (xh_v ad sp)).toArray meth c cL_share 6 RL false D cy (va_A (xh_ws ad cy h) s.heap.size) sp := ⟨B.exec, B.bytes, hml, hown, hG, hK, fun q hq => Or.inr hq, hO, fun z => by cases z⟩
  have hR : 49 ≤ (headSpec (Cond.codeWith yL_share cL_share 6 (some .int) [(0, 11, 14, 13)] :: xG) (xm_rm 49 1 6)).room.frames ∧ 40 * 49 ≤ (headSpec (Cond.codeWith yL_share cL_share 6 (some .int) [(0, 11, 14, 13)] :: xG) (xm_rm 49 1 6)).room.locals := ⟨Nat.le_refl 49, Nat.le_refl 1960⟩
  refine ls_pre X (h := h) (a := a) (b := b) (d := d) hR ⟨⟨hat.1, hD, hat.2.2⟩, va_S.rf, hl0⟩ ?_
  intro H1 locs1 ls1 S1
  obtain ⟨hat1, hS1, hl1⟩ := S1
  have hfree := xq_free hat1 hS1 (fun q hq => Or.inr hq)
  have hok : xm_ok xmi_X9_share := (xP.1 xi_X9_share xmi_X9_share rfl).1 (by decide)
  have hgi := xG_in hok
  obtain ⟨j1, j2, j3, j4, j5, j6, j7, j8, j9⟩ := hok
  obtain ⟨T, N, hv⟩ := (j7 rfl).2.2
  have hM := sh_thr (D := D) (cy := cy) (ad := ad) (sp := sp) (h := h) he (Nat.le_of_ble_eq_true rfl) l hl H1.size
  have hd7 : decode cL_share 7 = .ok (.invokevirtual 7, 3) := by decide +kernel
  refine vx_calll (A0 := va_A (xh_ws ad cy h) s.heap.size) (H0 := s.heap) (vx_runV (C := RX9) (b := ad 0) (own := RL) (index := 7) (n := 3) (bytes := cX9_share) (maxL := 11) (ret := some .long) (cc := cL_share) (nL := 6) (Ts := xG) (As := [.int a, .int b, .int d]) (rest := [.int 0, .ref (ad 71)]) ⟨B.exec, B.bytes, hml, hown, hG⟩ hM ⟨callB_of 3 hG hgi rfl rfl rfl (hG _ j2) (hG _ sh_l9) j5 ⟨Nat.le_refl _, Nat.le_of_ble_eq_true rfl⟩, hG _ (j7 rfl).1, hG _ (j7 rfl).2.1⟩ ⟨sh_blind _ _ _, va_recv hK hat1.1 hv (xh_ws_at h0), sh_pre X hat1 hS1 hU⟩ rfl rfl hl1.1 rfl (lv_room (Nat.le_of_ble_eq_true rfl)) hd7 ⟨Nat.le_refl _, Nat.le_refl _⟩) hS1 (fun q _ hq => hfree q hq) hfree (fun q _ hq => hfree q hq) ?_ ?_
  · intro E ce q9 u t H2 locs2 ht hal _ hb hsz hkeep hS2 hce hcv hcl
    obtain ⟨rfl, H0, hatx, hz, hk⟩ := hb
    refine vx_catch (own := RL) (name := sh_N) (E := sh_N) hown [] ⟨0, 11, 14, 13⟩ [] htab (fun z hz => by cases hz) (by decide) (by decide) (hG _ sh_lc) (hU.2.2.at sh_ca) hce hcv hcl ?_
    refine lv_astore B.exec B.bytes (i := 5) (nL := 6) (by decide +kernel) hl1 (by decide) rfl ?_
    intro ls3 hl3
    refine lv_iconst B.exec B.bytes (n := 1) (v := 1) (by decide +kernel) rfl ?_
    refine W.iret (cc := cL_share) B.exec B.bytes B.returns ?_ hS2.2.2 (by decide +kernel) B.notSynchronized
    intro t2 ht2 _
    refine ⟨rfl, ⟨H0, hatx.weaken hfree, by rw [ht2, ← ht]; exact hz, fun q hq => by rw [ht2, ← ht]; exact hk q hq⟩, by rw [ht2]; exact hS2.1, fun q g1 g2 => by rw [ht2]; exact hS2.2.1 q g1 g2⟩
  · intro r u t H2 locs2 _ _ hp
    exact hp.elim
end XSI
end
section
section XSJ
variable {p : Program} {l : Launch} {e : Env} {R : Room} {s : State} {m : MethodId} {args : Array Value} {below : List Frame} {meth : Method} {c : Code} {H : Heap} {locs : List Loc} {cells slots : Nat} {Q : State → Prop}
variable {ls : Array Slot} {D : va_G} {A : Nat → Prop} {ad sp : Nat → Nat} {cy : Nat → ClassId}
theorem sh_good : GoodIn xG (va_wsS RL 68 yL_share (Cond.codeWith yL_share cL_share 6 (some .int) [(0, 11, 14, 13)] :: xG)) := by
  intro w hw
  unfold va_wsS at hw
  rcases List.mem_append.mp hw with h | h
  · rcases List.mem_cons.mp h with rfl | h
    · exact xG_good sh_lk
    · rcases List.mem_cons.mp h with rfl | h
      · exact xG_good sh_ls
      · rcases List.mem_cons.mp h with rfl | h
        · exact xG_good sh_li
        · cases h
  · rcases List.mem_cons.mp h with rfl | h
    · exact xG_good sh_lw
    · exact xG_good h
theorem sh_d : decode code 535 = .ok (.invokestatic 68, 3) := by decide +kernel
theorem sh_lv (ad sp : Nat → Nat) {n k i : Nat} (hn : 72 ≤ n) : xl_m (sh_ad ad n k) sp (lc_v i) = xl_m ad sp (lc_v i) := by
  have e : ∀ j, j < 72 → sh_ad ad n k j = ad j := fun j hj => if_pos (by omega)
  simp [xl_m, lc_v, xh_v, e]
set_option maxRecDepth 100000 in
set_option maxHeartbeats 4000000 in
/-- the law's call of its share: it throws, and is caught -/
theorem sh_lawT (X : xc_X p s m args meth c code 8 RL false D cy A sp) (hU : sh_U A s) (hl : l.stackTraces = false) {h : xh_H} {i : Nat} (h0 : h.1[0]? = some (0, 9)) (hn : 72 ≤ h.1.length) (hi0 : a_inw a_tb h) {a b d : Int32} {f : Nat} {lv' : List (Nat × Value)} (he : xe_u xM xC none 26 f 48 xi_X9_share xmi_X9_share (0, lv_args 0 [.ref 0, .int a, .int b, .int d], [], h, 0, 0) = some (26, lv', [], h, 0, 0)) (S : xc_S D cy ad sp A s 8 h (lc_v i) H locs ls) (hR : 50 ≤ R.frames ∧ 1985 ≤ R.locals) (hcap : cells + 1 ≤ R.cells ∧ slots + 6 ≤ R.slots)
    (kk : ∀ (H1 : Heap) (locs1 : List Loc) (ad1 : Nat → Nat), xc_S D cy ad1 sp A s 8 h (lc_v i) H1 locs1 ls → W p l e R s m args below meth c H1 locs1 (cells + 1) (slots + 6) Q (F0 m 538 ls (([.int 1] : List Value).map (xh_v ad1 sp)))) :
    W p l e R s m args below meth c H locs cells slots Q (F0 m 535 ls (([.ref 71, .int d, .int b, .int a, .ref 0] : List Value).map (xh_v ad sp))) := by
  obtain ⟨hat, hS, hlv⟩ := S
  obtain ⟨hx, hb, hml, hown, hG, hK, hA, hO, hini⟩ := id X
  have hfree := xq_free hat hS hA
  have hr := vx_runSW (R := R) (below := below) (meth := meth) (H := H) (locs := locs) (cells := cells) (slots := slots) (e := e) (y := yL_share) (bytes := cL_share) (cc := code) (maxL := 6) (nL := 8) (ret := some .int) (hh := [(0, 11, 14, 13)]) (Ts := xG) (own := RL) (index := 68) (n := 5) (As := ([.ref 0, .int a, .int b, .int d, .ref 71] : List Value).map (xh_v ad sp)) (rest := []) (g := F0 m 535 ls (([.ref 71, .int d, .int b, .int a, .ref 0] : List Value).map (xh_v ad sp))) (p := p) (m := m) (c := c) (s := s) (args := args) ⟨hx, hb, hml, hown, hG⟩ (ls_thr (D := D) (cy := cy) (ad := ad) (sp := sp) he h0 l hl H.size) (vx_cwSW 5 hG sh_good rfl rfl rfl ⟨by decide, by decide, by decide⟩ ⟨hR.1, hR.2⟩) ⟨sh_blind _ _ _, sh_pre X hat hS hU⟩ rfl rfl hlv.1 rfl (lv_room (Nat.zero_le _)) sh_d hcap
  intro T hT0 X'
  obtain ⟨w, st₀, t, T', L, h0, X2, hL, e1, e2, ⟨hv, ⟨H0, hat0, hz, hk⟩, hF⟩, st⟩ := hr T hT0 X'
  cases hv
  obtain ⟨hF1, hF2⟩ := hF
  rw [h0] at hF1 hF2
  have S2 : xc_S D cy (sh_ad ad h.1.length T'.heap.size) sp A s 8 h (lc_v i) T'.heap (locs ++ L) ls := by
    refine ⟨sh_grow (h := h) (H1 := H0) hi0 (hat0.weaken hfree) (fun q hq => by rw [e1]; exact hk q hq), ⟨Nat.le_trans hS.1 (by rw [e1]; exact hF1), fun q h1 h2 => ?_, fun q hq => ?_⟩, ?_⟩
    · rw [e1, hF2 q (Nat.lt_of_lt_of_le h1 hS.1) (fun z => h2 (hfree q z))]
      exact hS.2.1 q h1 h2
    · rcases List.mem_append.mp hq with h | h
      · exact hS.2.2 q h
      · exact hfree _ (hL q h)
    · rw [sh_lv ad sp hn]
      exact hlv
  obtain ⟨t2, a1, b1⟩ := kk T'.heap (locs ++ L) _ S2 T' rfl X2
  exact ⟨t2, st t2 a1, b1⟩
set_option maxRecDepth 100000 in
set_option maxHeartbeats 4000000 in
/-- the law's call of its share: it returns -/
theorem sh_lawR (X : xc_X p s m args meth c code 8 RL false D cy A sp) {h : xh_H} {i : Nat} (h0 : h.1[0]? = some (0, 9)) {a b d : Int32} {f : Nat} {h1 : xh_H} {v : Int64} (he : xe_x xM xC none f 48 xi_X9_share xmi_X9_share (0, lv_args 0 [.ref 0, .int a, .int b, .int d], [], h, 0, 0) = some (some (.long v), h1, 0, 0)) (h71 : h1.1[71]? = some (4, 1)) (S : xc_S D cy ad sp A s 8 h (lc_v i) H locs ls) (hR : 50 ≤ R.frames ∧ 1985 ≤ R.locals) (hcap : cells + 0 ≤ R.cells ∧ slots + 0 ≤ R.slots)
    (kk : ∀ (H1 : Heap) (locs1 : List Loc), xc_S D cy ad sp A s 8 (xh_ul h1 71 0 v) (lc_v i) H1 locs1 ls → W p l e R s m args below meth c H1 locs1 (cells + 0) (slots + 0) Q (F0 m 538 ls (([.int 0] : List Value).map (xh_v ad sp)))) :
    W p l e R s m args below meth c H locs cells slots Q (F0 m 535 ls (([.ref 71, .int d, .int b, .int a, .ref 0] : List Value).map (xh_v ad sp))) := by
  obtain ⟨hat, hS, hlv⟩ := S
  obtain ⟨hx, hb, hml, hown, hG, hK, hA, hO, hini⟩ := id X
  have hfree := xq_free hat hS hA
  refine xa_call (v := some (.int 0)) (h1 := xh_ul h1 71 0 v) (vx_runSW (y := yL_share) (bytes := cL_share) (cc := code) (maxL := 6) (nL := 8) (ret := some .int) (hh := [(0, 11, 14, 13)]) (Ts := xG) (own := RL) (index := 68) (n := 5) (As := ([.ref 0, .int a, .int b, .int d, .ref 71] : List Value).map (xh_v ad sp)) (rest := []) ⟨hx, hb, hml, hown, hG⟩ (ls_ret (D := D) (cy := cy) (ad := ad) (sp := sp) he h0 h71 l H.size) (vx_cwSW 5 hG sh_good rfl rfl rfl ⟨by decide, by decide, by decide⟩ ⟨hR.1, hR.2⟩) ⟨xq_blind _ _ _, xq_pre X hat hS⟩ rfl rfl hlv.1 rfl (lv_room (Nat.zero_le _)) sh_d hcap) hS hfree ?_
  intro H1 locs1 hat1 hS1
  exact kk H1 locs1 ⟨hat1, hS1, hlv⟩
end XSJ
end
section
section XDI
theorem and31 (a : Int32) : ∃ k : Nat, k < 32 ∧ a &&& 31 = nI k := by
  have h1 : (a &&& 31).toBitVec = a.toBitVec &&& 31#32 := rfl
  have h2 : (a &&& 31).toBitVec.toNat < 32 := by
    rw [h1, BitVec.toNat_and]
    have := Nat.and_le_right (n := a.toBitVec.toNat) (m := (31#32).toNat)
    have e : (31#32).toNat = 31 := rfl
    omega
  have h3 : (a &&& 31).toInt = ((a &&& 31).toBitVec.toNat : Int) := by
    show (a &&& 31).toBitVec.toInt = _
    exact BitVec.toInt_eq_toNat_of_lt (by omega)
  obtain ⟨k, e, k31, -⟩ := a_nk (x := a &&& 31) (m := 31) (by omega) (by omega)
  exact ⟨k, by omega, e⟩
variable {L i : Nat} {xs : Nat → Int32} {h : xh_H} {c s : Nat}
theorem ld_sub (hL : L ≤ 3072) : (Int32.ofNat L - 6).toInt = (L : Int) - 6 := by
  have e : (Int32.ofNat L).toInt = L := nI_toInt (n := L) (by omega)
  have e6 : (6 : Int32).toInt = 6 := rfl
  rw [ar_sub (by rw [e, e6]; omega) (by rw [e, e6]; omega), e, e6]
set_option maxRecDepth 100000 in
/-- the loop's head -/
theorem ld_head {stop : Nat} {o : xs_S} {b : Bool} (hb : xe_c .gt (nI i) (Int32.ofNat L - 6) = b) (b0 : Nat.beq 23 stop = false) (b1 : Nat.beq 25 stop = false) (b2 : Nat.beq 26 stop = false) (b3 : Nat.beq 27 stop = false) (b4 : Nat.beq 29 stop = false) (b5 : Nat.beq 30 stop = false) (k : xV (some (L, xs)) stop 50 xi_L_law xmi_L_law (cond b 1005 33, lc_v i, [], h, c, s) o) : xV (some (L, xs)) stop 50 xi_L_law xmi_L_law (23, lc_v i, [], h, c, s) o := by
  refine xV_step (o1 := (25, lc_v i, [.int (nI i)], h, c, s)) b0 rfl rfl rfl ?_
  refine xV_step (o1 := (26, lc_v i, [.float 0, .int (nI i)], h, c, s)) b1 rfl rfl rfl ?_
  refine xV_step (o1 := (27, lc_v i, [.int (Int32.ofNat L), .int (nI i)], h, c, s)) b2 rfl rfl rfl ?_
  refine xV_step (o1 := (29, lc_v i, [.int 6, .int (Int32.ofNat L), .int (nI i)], h, c, s)) b3 rfl rfl rfl ?_
  refine xV_step (o1 := (30, lc_v i, [.int (Int32.ofNat L - 6), .int (nI i)], h, c, s)) b4 rfl rfl rfl ?_
  exact xV_ic b b5 rfl hb k
theorem ld_end (hL : L ≤ 3072) (hi : L < i + 6) (hi2 : i ≤ 3078) : xV (some (L, xs)) 1005 50 xi_L_law xmi_L_law (23, lc_v i, [], h, c, s) (1005, lc_v i, [], h, c, s) :=
  ld_head (b := true) (xgt_t (by rw [ld_sub hL, nI_toInt (by omega)]; omega)) rfl rfl rfl rfl rfl rfl xV_stop
set_option maxRecDepth 100000 in
/-- a call's number -/
theorem ld_sw {stop : Nat} {o : xs_S} (hL : L ≤ 3072) (hi : i + 6 ≤ L) (b0 : Nat.beq 23 stop = false) (b1 : Nat.beq 25 stop = false) (b2 : Nat.beq 26 stop = false) (b3 : Nat.beq 27 stop = false) (b4 : Nat.beq 29 stop = false) (b5 : Nat.beq 30 stop = false) (b6 : Nat.beq 33 stop = false) (b7 : Nat.beq 34 stop = false) (b8 : Nat.beq 36 stop = false) (b9 : Nat.beq 37 stop = false) (ba : Nat.beq 39 stop = false) (k : xV (some (L, xs)) stop 50 xi_L_law xmi_L_law (40, lc_v i, [.int (xs i &&& 31)], h, c, s) o) : xV (some (L, xs)) stop 50 xi_L_law xmi_L_law (23, lc_v i, [], h, c, s) o := by
  refine ld_head (b := false) (xgt_f (by rw [ld_sub hL, nI_toInt (by omega)]; omega)) b0 b1 b2 b3 b4 b5 ?_
  refine xV_step (o1 := (34, lc_v i, [.float 0], h, c, s)) b6 rfl rfl rfl ?_
  refine xV_step (o1 := (36, lc_v i, [.int (nI i), .float 0], h, c, s)) b7 rfl rfl rfl ?_
  refine xV_step (o1 := (37, lc_v i, [.int (xs i)], h, c, s)) b8 rfl rfl (lc_ia (by omega) hL) ?_
  refine xV_step (o1 := (39, lc_v i, [.int 31, .int (xs i)], h, c, s)) b9 rfl rfl rfl ?_
  exact xV_step (o1 := (40, lc_v i, [.int (xs i &&& 31)], h, c, s)) ba rfl rfl rfl k
set_option maxRecDepth 100000 in
set_option maxHeartbeats 4000000 in
/-- every call but share -/
theorem ld_all (hL : L ≤ 3072) (hi : i + 6 ≤ L) (I : lc_I h) (hk : xs i &&& 31 ≠ 11) : lo_P L xs i 23 h c s := by
  obtain ⟨k, k32, ek⟩ := and31 (xs i)
  have go : ∀ pc, (∀ o, xV (some (L, xs)) 999 50 xi_L_law xmi_L_law (pc, lc_v i, [], h, c, s) o → xV (some (L, xs)) 999 50 xi_L_law xmi_L_law (40, lc_v i, [.int (nI k)], h, c, s) o) → lo_P L xs i pc h c s → lo_P L xs i 23 h c s := by
    intro pc st ⟨h', c', s', r, z⟩
    refine ⟨h', c', s', ?_, z⟩
    refine ld_sw hL hi rfl rfl rfl rfl rfl rfl rfl rfl rfl rfl rfl ?_
    rw [ek]
    exact st _ r
  have no : lo_P L xs i 999 h c s := ⟨h, c, s, xV_stop, I, by omega, by omega⟩
  match k, k32, ek, go with
  | 0, _, _, go => exact go 168 (fun _ r => xV_step rfl rfl rfl rfl r) (lo_0 hL hi I)
  | 1, _, _, go => exact go 241 (fun _ r => xV_step rfl rfl rfl rfl r) (lo_1 hL hi I)
  | 2, _, _, go => exact go 266 (fun _ r => xV_step rfl rfl rfl rfl r) (lo_2 hL hi I)
  | 3, _, _, go => exact go 291 (fun _ r => xV_step rfl rfl rfl rfl r) (lo_3 hL hi I)
  | 4, _, _, go => exact go 316 (fun _ r => xV_step rfl rfl rfl rfl r) (lo_4 hL hi I)
  | 5, _, _, go => exact go 341 (fun _ r => xV_step rfl rfl rfl rfl r) (lo_5 hL hi I)
  | 6, _, _, go => exact go 354 (fun _ r => xV_step rfl rfl rfl rfl r) (lo_6 hL hi I)
  | 7, _, _, go => exact go 391 (fun _ r => xV_step rfl rfl rfl rfl r) (lo_7 hL hi I)
  | 8, _, _, go => exact go 416 (fun _ r => xV_step rfl rfl rfl rfl r) (lo_8 hL hi I)
  | 9, _, _, go => exact go 453 (fun _ r => xV_step rfl rfl rfl rfl r) (lo_9 hL hi I)
  | 10, _, _, go => exact go 490 (fun _ r => xV_step rfl rfl rfl rfl r) (lo_10 hL hi I)
  | 11, _, ek, _ => exact absurd ek hk
  | 12, _, _, go => exact go 567 (fun _ r => xV_step rfl rfl rfl rfl r) (lo_12 hL hi I)
  | 13, _, _, go => exact go 592 (fun _ r => xV_step rfl rfl rfl rfl r) (lo_13 hL hi I)
  | 14, _, _, go => exact go 617 (fun _ r => xV_step rfl rfl rfl rfl r) (lo_14 hL hi I)
  | 15, _, _, go => exact go 630 (fun _ r => xV_step rfl rfl rfl rfl r) (lo_15 hL hi I)
  | 16, _, _, go => exact go 655 (fun _ r => xV_step rfl rfl rfl rfl r) (lo_16 hL hi I)
  | 17, _, _, go => exact go 680 (fun _ r => xV_step rfl rfl rfl rfl r) (lo_17 hL hi I)
  | 18, _, _, go => exact go 717 (fun _ r => xV_step rfl rfl rfl rfl r) (lo_18 hL hi I)
  | 19, _, _, go => exact go 730 (fun _ r => xV_step rfl rfl rfl rfl r) (lo_19 hL hi I)
  | 20, _, _, go => exact go 743 (fun _ r => xV_step rfl rfl rfl rfl r) (lo_20 hL hi I)
  | 21, _, _, go => exact go 784 (fun _ r => xV_step rfl rfl rfl rfl r) (lo_21 hL hi I)
  | 22, _, _, go => exact go 809 (fun _ r => xV_step rfl rfl rfl rfl r) (lo_22 hL hi I)
  | 23, _, _, go => exact go 834 (fun _ r => xV_step rfl rfl rfl rfl r) (lo_23 hL hi I)
  | 24, _, _, go => exact go 887 (fun _ r => xV_step rfl rfl rfl rfl r) (lo_24 hL hi I)
  | 25, _, _, go => exact go 912 (fun _ r => xV_step rfl rfl rfl rfl r) (lo_25 hL hi I)
  | 26, _, _, go => exact go 949 (fun _ r => xV_step rfl rfl rfl rfl r) (lo_26 hL hi I)
  | 27, _, _, go => exact go 974 (fun _ r => xV_step rfl rfl rfl rfl r) (lo_27 hL hi I)
  | 28, _, _, go => exact go 999 (fun _ r => xV_step rfl rfl rfl rfl r) no
  | 29, _, _, go => exact go 999 (fun _ r => xV_step rfl rfl rfl rfl r) no
  | 30, _, _, go => exact go 999 (fun _ r => xV_step rfl rfl rfl rfl r) no
  | 31, _, _, go => exact go 999 (fun _ r => xV_step rfl rfl rfl rfl r) no
  | n + 32, k32, _, _ => exact absurd k32 (by omega)
end XDI
end
section
section XSB
/-- share answers -/
def so_ok (h : xh_H) (a b d : Int32) : Prop := (0 ≤ a.toInt ∧ a.toInt < (xg 0 h.2.1 0 9).toInt) ∧ 0 ≤ b.toInt ∧ b.toInt ≤ 2 ∧ 0 ≤ d.toInt ∧ d.toInt ≤ 1
set_option maxRecDepth 100000 in
theorem im9 {d : Nat} {a : Int32} {h : xh_H} (hq : a_rq a_tb h) : xt_P d xi_X9_isMember xmi_X9_isMember 0 [(0, .ref 0), (1, .int a)] [] h (fun v h' => h = h' ∧ v = some (.int (bl (decide (0 ≤ a.toInt ∧ a.toInt < (xg 0 h.2.1 0 9).toInt))))) := by
  cases c1 : xe_c .lt a 0 with
  | true =>
    have b1 : a.toInt < (0 : Int) := a_ce c1
    refine xa_tn 17 [] [] [.int (Int32.ofInt 0)] h [true] 12 hq rfl ⟨c1, trivial⟩ (fun _ => ?_)
    refine xp_ret rfl rfl rfl ⟨rfl, ?_⟩
    rw [decide_eq_false (by omega)]
    rfl
  | false =>
    have b1 : (0 : Int) ≤ a.toInt := a_ce (a_neg_ok c1)
    cases c2 : xe_c .ge a (xg 0 h.2.1 0 9) with
    | true =>
      have b2 : (xg 0 h.2.1 0 9).toInt ≤ a.toInt := a_ce c2
      refine xa_tn 17 [] [] [.int (Int32.ofInt 0)] h [false, true] 12 hq rfl ⟨c1, c2, trivial⟩ (fun _ => ?_)
      refine xp_ret rfl rfl rfl ⟨rfl, ?_⟩
      rw [decide_eq_false (by omega)]
      rfl
    | false =>
      have b2 : a.toInt < (xg 0 h.2.1 0 9).toInt := a_ce (a_neg_ok c2)
      refine xa_tn 17 [] [] [.int (Int32.ofInt 1)] h [false, false] 12 hq rfl ⟨c1, c2, trivial⟩ (fun _ => ?_)
      refine xp_ret rfl rfl rfl ⟨rfl, ?_⟩
      rw [decide_eq_true ⟨b1, b2⟩]
      rfl
set_option maxRecDepth 100000 in
set_option maxHeartbeats 8000000 in
theorem cs_bad {a b d : Int32} {h : xh_H} (hq : a_rq a_tb h) (hno : ¬ so_ok h a b d) : xV none 26 48 xi_X9_share xmi_X9_share (0, lv_args 0 [.ref 0, .int a, .int b, .int d], [], h, 0, 0) (26, lv_args 0 [.ref 0, .int a, .int b, .int d], [], h, 0, 0) := by
  have fin : xV none 26 48 xi_X9_share xmi_X9_share (26, lv_args 0 [.ref 0, .int a, .int b, .int d], [], h, 0, 0) (26, lv_args 0 [.ref 0, .int a, .int b, .int d], [], h, 0, 0) := xV_stop
  refine xV_step (o1 := (1, lv_args 0 [.ref 0, .int a, .int b, .int d], [.ref 0], h, 0, 0)) rfl rfl rfl rfl ?_
  refine xV_step (o1 := (2, lv_args 0 [.ref 0, .int a, .int b, .int d], [.int a, .ref 0], h, 0, 0)) rfl rfl rfl rfl ?_
  obtain ⟨v, h', r, rfl, rfl⟩ := im9 (d := 47) (a := a) hq
  refine xV_call (d := 47) rfl rfl rfl rfl (xa_c_ok (d := 47) (pc := 2) (lv := lv_args 0 [.ref 0, .int a, .int b, .int d]) (nL := 11) hq rfl).1 r ?_
  by_cases h1 : 0 ≤ a.toInt ∧ a.toInt < (xg 0 h.2.1 0 9).toInt
  · rw [decide_eq_true h1]
    refine xV_if false rfl rfl rfl ?_
    refine xV_step (o1 := (9, lv_args 0 [.ref 0, .int a, .int b, .int d], [.int b], h, 0, 0)) rfl rfl rfl rfl ?_
    cases c1 : xe_c .lt b 0 with
    | true => exact xV_if true rfl rfl c1 fin
    | false =>
      have b1 : (0 : Int) ≤ b.toInt := a_ce (a_neg_ok c1)
      refine xV_if false rfl rfl c1 ?_
      refine xV_step (o1 := (13, lv_args 0 [.ref 0, .int a, .int b, .int d], [.int b], h, 0, 0)) rfl rfl rfl rfl ?_
      refine xV_step (o1 := (14, lv_args 0 [.ref 0, .int a, .int b, .int d], [.int (Int32.ofInt 2), .int b], h, 0, 0)) rfl rfl rfl rfl ?_
      cases c2 : xe_c .gt b (Int32.ofInt 2) with
      | true => exact xV_ic true rfl rfl c2 fin
      | false =>
        have b2 : b.toInt ≤ (2 : Int) := a_ce (a_neg_ok c2)
        refine xV_ic false rfl rfl c2 ?_
        refine xV_step (o1 := (18, lv_args 0 [.ref 0, .int a, .int b, .int d], [.int d], h, 0, 0)) rfl rfl rfl rfl ?_
        cases c3 : xe_c .lt d 0 with
        | true => exact xV_if true rfl rfl c3 fin
        | false =>
          have b3 : (0 : Int) ≤ d.toInt := a_ce (a_neg_ok c3)
          refine xV_if false rfl rfl c3 ?_
          refine xV_step (o1 := (22, lv_args 0 [.ref 0, .int a, .int b, .int d], [.int d], h, 0, 0)) rfl rfl rfl rfl ?_
          refine xV_step (o1 := (23, lv_args 0 [.ref 0, .int a, .int b, .int d], [.int (Int32.ofInt 1), .int d], h, 0, 0)) rfl rfl rfl rfl ?_
          cases c4 : xe_c .le d (Int32.ofInt 1) with
          | true =>
            have b4 : d.toInt ≤ (1 : Int) := a_ce c4
            exact absurd ⟨h1, b1, b2, b3, b4⟩ hno
          | false => exact xV_ic false rfl rfl c4 fin
  · rw [decide_eq_false h1]
    exact xV_if true rfl rfl rfl fin
theorem cs_good {a b d : Int32} {h : xh_H} (I : lc_I h) (ho : so_ok h a b d) : ∃ (f : Nat) (v : Int64) (h1 : xh_H), xe_x xM xC none f 48 xi_X9_share xmi_X9_share (0, lv_args 0 [.ref 0, .int a, .int b, .int d], [], h, 0, 0) = some (some (.long v), h1, 0, 0) ∧ h1.1 = h.1 ∧ lc_I h1 := by
  obtain ⟨⟨a1, a2⟩, b1, b2, d1, d2⟩ := ho
  have mb := a_flx (c := 0) (k := 9) (lo := 1) (hi := 12) I.1.1 I.2.1 rfl rfl (by decide)
  obtain ⟨ka, ea, -, ka2⟩ := a_nk (x := a) (m := 12) a1 (by omega)
  obtain ⟨kb, eb, kb1, -⟩ := a_nk (x := b) (m := 2) b1 b2
  obtain ⟨kd, ed, kd1, -⟩ := a_nk (x := d) (m := 1) d1 d2
  rw [ea, nI_toInt ka2] at a2
  obtain ⟨v, h1, ⟨f, hf⟩, k1, x, rfl⟩ := s9_run (d := 42) (k := ka) (w := kb) (z := kd) I.1 I.2.1 a2 kb1 kd1
  rw [ea, eb, ed]
  exact ⟨f, x, h1, hf, k1.2.1, lc_It I k1.1 (hk_n k1 I.2.1) (by rw [k1.2.1]; exact I.2.2.1) (Fs_z (lc_Iq I) (fz_run (mid := xi_X9_share) (by decide +kernel) ⟨f, hf⟩)) k1.2.2 rfl (xq_Z (hn := (show List.Nodup [0, 1, 2, 3] by decide)) ⟨f, hf⟩ (fun f => lp_share (f := f) I))⟩
theorem lc_ul {h : xh_H} {v : Int64} (I : lc_I h) : lc_I (xh_ul h 71 0 v) := by
  refine ⟨a_inv_ul (s := (4, 1)) (lo := -9223372036854775808) (hi := 9223372036854775807) I.1 ((lc_Iq I).2.1 71 _ rfl) rfl (lr v).1 (lr v).2, I.2.1, I.2.2.1, ?_⟩
  obtain ⟨r0, r1, r2, r3, r4, r5, r6, r7, r8, r9, r10, r11, r12⟩ := I.2.2.2
  have q := lc_Iq I
  refine ⟨r0, r1, r2, r3, r4, r5, r6, r7, r8, SI_s I.1 q (Fs_f (S := fN) (L := Lr 71) (fx_ul fx_0 rfl) (fun _ _ _ => rfl) (fun c k e => ?_)) rfl rfl (fun _ => rfl) (fun _ => rfl) (fun _ => rfl) r9, r10, PI_s I.1 I.2.1 (fun c k e _ => gl_o (fun w => ?_)) (fun _ _ _ => rfl) rfl (fun _ _ _ => rfl) r11, r12⟩
  rotate_left
  · rcases sh64c q e with z | z <;> omega
  show Nat.beq c 71 = false
  rw [Bool.eq_false_iff]
  intro y
  have := Nat.eq_of_beq_eq_true y
  rcases sh64c q e with z | z <;> omega
variable {L i : Nat} {xs : Nat → Int32} {h : xh_H} {c s : Nat}
set_option maxRecDepth 100000 in
set_option maxHeartbeats 4000000 in
/-- share's arguments -/
theorem lo_11a (hL : L ≤ 3072) (hi6 : i + 6 ≤ L) (hk : xs i &&& 31 = 11) : xV (some (L, xs)) 535 50 xi_L_law xmi_L_law (23, lc_v i, [], h, c, s) (535, lc_v i, [.ref 71, .int (xs (i + 3)), .int (xs (i + 2)), .int (xs (i + 1)), .ref 0], h, c, s) := by
  refine ld_sw hL hi6 rfl rfl rfl rfl rfl rfl rfl rfl rfl rfl rfl ?_
  rw [hk]
  refine xV_step (o1 := (515, lc_v i, [], h, c, s)) rfl rfl rfl rfl ?_
  refine xV_step (o1 := (516, lc_v i, [.ref 0], h, c, s)) rfl rfl rfl rfl ?_
  refine xV_arg 1 1 rfl (by omega) hL rfl rfl rfl rfl rfl rfl rfl rfl rfl rfl ?_
  refine xV_arg 2 2 rfl (by omega) hL rfl rfl rfl rfl rfl rfl rfl rfl rfl rfl ?_
  refine xV_arg 3 3 rfl (by omega) hL rfl rfl rfl rfl rfl rfl rfl rfl rfl rfl ?_
  refine xV_step (o1 := (535, lc_v i, [.ref 71, .int (xs (i + 3)), .int (xs (i + 2)), .int (xs (i + 1)), .ref 0], h, c, s)) rfl rfl rfl rfl ?_
  exact xV_stop
set_option maxRecDepth 100000 in
set_option maxHeartbeats 4000000 in
/-- the reference's share -/
theorem lo_11b (hL : L ≤ 3072) (hi6 : i + 6 ≤ L) (I : lc_I h) : ∃ (y : Int64) (h2 : xh_H), xV (some (L, xs)) 562 50 xi_L_law xmi_L_law (540, lc_v i, [], h, c, s) (562, lc_v i, [.long y], h2, c, s) ∧ lc_I h2 := by
  obtain ⟨y, h2, r2, I2⟩ := lc_2 (D := 49) (m := xmi_X10_share) (A := [.ref 39, .int (xs (i + 1)), .int (xs (i + 2)), .int (xs (i + 3))]) I as_m_X10_share rfl (by decide) ⟨a_av (by decide) I.2.1, a_an, a_an, a_an, trivial⟩ rfl rfl rfl (by decide +kernel) rfl (by decide +kernel)
  refine ⟨y, h2, ?_, I2⟩
  refine xV_step (o1 := (541, lc_v i, [.ref 39], h, c, s)) rfl rfl rfl rfl ?_
  refine xV_arg 1 1 rfl (by omega) hL rfl rfl rfl rfl rfl rfl rfl rfl rfl rfl ?_
  refine xV_arg 2 2 rfl (by omega) hL rfl rfl rfl rfl rfl rfl rfl rfl rfl rfl ?_
  refine xV_arg 3 3 rfl (by omega) hL rfl rfl rfl rfl rfl rfl rfl rfl rfl rfl ?_
  refine xV_call (d := 49) rfl rfl rfl rfl (xa_c_ok (d := 49) (pc := 559) (lv := lc_v i) (nL := 8) (lc_Iq I) rfl).1 r2 ?_
  exact xV_stop
end XSB
end
section
section XWS
set_option maxRecDepth 20000 in
theorem ws_u : Jvm.Cond.isRef (.static "java/lang/Throwable" "UNASSIGNED_STACK" "[Ljava/lang/StackTraceElement;") ∈ flatC (Jvm.Cond.and given_1 narrow_1) := by decide +kernel
set_option maxRecDepth 20000 in
theorem ws_s : Jvm.Cond.isRef (.static "java/lang/Throwable" "SUPPRESSED_SENTINEL" "Ljava/util/List;") ∈ flatC (Jvm.Cond.and given_1 narrow_1) := by decide +kernel
theorem ws_lu : Cond.laysStatic Bundle.tN "UNASSIGNED_STACK" Bundle.steD ∈ lw_tbl := xtb_in (K := 5) (List.mem_of_getElem? (i := 21) (by decide +kernel))
theorem ws_ls : Cond.laysStatic Bundle.tN "SUPPRESSED_SENTINEL" Bundle.listD ∈ lw_tbl := xtb_in (K := 5) (List.mem_of_getElem? (i := 23) (by decide +kernel))
theorem ws_ti : Cond.initialized Bundle.tN ∈ lw_tbl := xtb_in (K := 1) (List.mem_of_getElem? (i := 18) (by decide +kernel))
theorem ws_b : ∀ w ∈ sh_b, w ∈ lw_tbl := by
  intro w hw
  unfold sh_b at hw
  simp only [List.mem_cons, List.not_mem_nil, or_false] at hw
  rcases hw with rfl | rfl | rfl | rfl
  · exact xtb_in (K := 4) (List.mem_of_getElem? (i := 237) (by decide +kernel))
  · exact xtb_in (K := 4) (List.mem_of_getElem? (i := 239) (by decide +kernel))
  · exact xtb_in (K := 5) (List.mem_of_getElem? (i := 1) (by decide +kernel))
  · exact xtb_in (K := 4) (List.mem_of_getElem? (i := 236) (by decide +kernel))
theorem ws_U {p : Program} {s : State} {m : MethodId} {meth : Method} {c : Code} {b L : Nat} {xs : Nat → Int32} (C0 : lw_At p s m meth c b L xs) : sh_U (fun q : Nat => s.heap.size ≤ q) s := by
  obtain ⟨hx, hb, hr, hml, hown, hts, hX, hbl, hlocks, hgv⟩ := id C0
  have hs := flat_of_before _ hgv
  have hA0 : ∀ a : Nat, a < s.heap.size → ¬ (fun q : Nat => s.heap.size ≤ q) a := fun a h1 h2 => by have h2 : s.heap.size ≤ a := h2; omega
  exact ⟨vx_Zqof (hts _ ws_lu) (hts _ ws_ti) (hs _ ws_u) hA0, vx_Zqof (hts _ ws_ls) (hts _ ws_ti) (hs _ ws_s) hA0, fun w hw => va_tabs (sh_bt w hw) rfl (hts w (ws_b w hw))⟩
set_option maxRecDepth 100000 in
set_option maxHeartbeats 8000000 in
/-- the law's end, out of a run on the machine -/
theorem ws_end {p : Program} {l : Launch} {e : Env} {s : State} {m : MethodId} {below : List Frame} {meth : Method} {c : Code} {b L : Nat} {xs : Nat → Int32} {D : va_G} {cy : Nat → ClassId} {ad sp : Nat → Nat} {H : Heap} {locs : List Loc} {ls : Array Slot} {pc : Nat} {lv : List (Nat × Value)} {st : List Value} {h h' : xh_H} {cc ss : Nat} (C0 : lw_At p s m meth c b L xs) (hsp : sp 0 = b) (X : xc_X p s m #[Value.ref b] meth c code 8 RL false D cy (fun q : Nat => s.heap.size ≤ q) sp) (S : xc_S D cy ad sp (fun q : Nat => s.heap.size ≤ q) s 8 h lv H locs ls) (hr : xR (some (L, xs)) 50 xi_L_law xmi_L_law (pc, lv, st, h, cc, ss) (some (.int 1), h', cc, ss)) (hc : cc ≤ 601024) (hs : ss ≤ 7293034) : W p l e room_1 s m #[Value.ref b] below meth c H locs cc ss (lw_Z below #[Value.ref b] s) (F0 m pc ls (st.map (xh_v ad sp))) := by
  obtain ⟨f, he⟩ := hr
  obtain ⟨hx, hb, hr, hml, hown, hts, hX, hbl, hlocks, hgv⟩ := id C0
  refine xS f p l e room_1 s m _ below meth c H locs _ ls D (fun q : Nat => s.heap.size ≤ q) ad sp cy (some (L, xs)) 50 xi_L_law xmi_L_law pc lv st h cc ss (some (.int 1)) h' cc ss he rfl X ⟨by decide, by decide, hc, hs⟩ ?_ S ?_
  · intro L' xs' z
    cases z
    rw [hsp]
    exact ⟨hX, hbl, Nat.not_le.mpr hbl⟩
  · intro H1 locs1 ls1 lv1 pc1 ri st1 S1 hd1 hrv
    have hst : st1 = [.int 1] ∧ ri = .ireturn := by
      unfold xe_rv at hrv
      repeat' split at hrv
      all_goals first
        | (cases hrv; done)
        | (cases hrv; exact ⟨rfl, rfl⟩)
        | (obtain ⟨_, h2⟩ := xw_c hrv; cases h2; exact ⟨rfl, rfl⟩)
    obtain ⟨rfl, rfl⟩ := hst
    refine va_forget S1.2.1.2.2 ?_
    refine W.widen hc hs ?_
    exact lw_ret hx hb hr hlocks hd1
set_option maxRecDepth 100000 in
set_option maxHeartbeats 8000000 in
/-- the law's loop, on the machine -/
theorem wl_loop {p : Program} {e : Env} {s : State} {m : MethodId} {below : List Frame} {meth : Method} {c : Code} (l : Launch) (hl : l.stackTraces = false) {b L : Nat} {xs : Nat → Int32} {D : va_G} {cy : Nat → ClassId} {sp : Nat → Nat} (C0 : lw_At p s m meth c b L xs) (hsp : sp 0 = b) (hL : L ≤ 3072) (X : xc_X p s m #[Value.ref b] meth c code 8 RL false D cy (fun q : Nat => s.heap.size ≤ q) sp) (hU : sh_U (fun q : Nat => s.heap.size ≤ q) s) : ∀ (n i : Nat) (h : xh_H) (cc ss : Nat) (ad : Nat → Nat) (H : Heap) (locs : List Loc) (ls : Array Slot), L < i + 6 * n → i ≤ 3072 → lc_I h → cc ≤ 72 + 2 * i → ss ≤ 274345 + 66 * i → xc_S D cy ad sp (fun q : Nat => s.heap.size ≤ q) s 8 h (lc_v i) H locs ls → W p l e room_1 s m #[Value.ref b] below meth c H locs cc ss (lw_Z below #[Value.ref b] s) (F0 m 23 ls (([] : List Value).map (xh_v ad sp))) := by
  obtain ⟨hx, hb, hr, hml, hown, hts, hX, hbl, hlocks, hgv⟩ := id C0
  have hscr : ∀ (L' : Nat) (xs' : Nat → Int32), some (L, xs) = some (L', xs') → va_X (sp 0) L' xs' s s.heap ∧ sp 0 < s.heap.size ∧ ¬ (fun q : Nat => s.heap.size ≤ q) (sp 0) := by
    intro L' xs' z
    cases z
    rw [hsp]
    exact ⟨hX, hbl, Nat.not_le.mpr hbl⟩
  have hR : ∀ c s, c ≤ 601024 → s ≤ 7293034 → 50 ≤ room_1.frames ∧ 40 * 50 ≤ room_1.locals ∧ c ≤ room_1.cells ∧ s ≤ room_1.slots := fun c s h1 h2 => ⟨by decide, by decide, h1, h2⟩
  intro n
  induction n with
  | zero =>
    intro i h cc ss ad H locs ls hn hi I hc hs S
    obtain ⟨f, hf⟩ := ld_end (L := L) (i := i) (xs := xs) (h := h) (c := cc) (s := ss) hL (by omega) (by omega)
    refine xS_u xP (scr := some (L, xs)) (mid := xi_L_law) (mi := xmi_L_law) rfl X hscr f 50 23 (lc_v i) [] h cc ss 1005 (lc_v i) [] h cc ss _ _ _ hf (hR _ _ (by omega) (by omega)) S ?_
    intro H1 locs1 ls1 S1
    exact ws_end C0 hsp X S1 (h' := h) (xR_of (f := 3) rfl) (by omega) (by omega)
  | succ n ih =>
    intro i h cc ss ad H locs ls hn hi I hc hs S
    by_cases hi6 : i + 6 ≤ L
    · have nx : ∀ (h' : xh_H) (c' s' : Nat) (ad : Nat → Nat) (H1 : Heap) (locs1 : List Loc) (ls1 : Array Slot), lc_I h' → c' ≤ cc + 2 → s' ≤ ss + 66 → xc_S D cy ad sp (fun q : Nat => s.heap.size ≤ q) s 8 h' (lc_v i) H1 locs1 ls1 → W p l e room_1 s m #[Value.ref b] below meth c H1 locs1 c' s' (lw_Z below #[Value.ref b] s) (F0 m 999 ls1 (([] : List Value).map (xh_v ad sp))) := by
        intro h' c' s' ad H1 locs1 ls1 I' hc' hs' S1
        have r : xV (some (L, xs)) 23 50 xi_L_law xmi_L_law (999, lc_v i, [], h', c', s') (23, lc_v (i + 6), [], h', c', s') := by
          have e6 : nI i + Int32.ofInt 6 = nI (i + 6) := nI_add i 6
          refine xV_step (o1 := (1002, lc_v (i + 6), [], h', c', s')) rfl rfl rfl ?_ ?_
          · show some (999 + 3, (4, Value.int (nI i + Int32.ofInt 6)) :: [(3, Value.ref 71), (2, Value.ref 39), (1, Value.ref 0), (0, Value.float 0)], [], h', c', s') = _
            rw [e6]
            rfl
          · refine xV_step (o1 := (23, lc_v (i + 6), [], h', c', s')) rfl rfl rfl rfl ?_
            exact xV_stop
        obtain ⟨f, hf⟩ := r
        refine xS_u xP (scr := some (L, xs)) (mid := xi_L_law) (mi := xmi_L_law) rfl X hscr f 50 999 (lc_v i) [] h' c' s' 23 (lc_v (i + 6)) [] h' c' s' _ _ _ hf (hR _ _ (by omega) (by omega)) S1 ?_
        intro H2 locs2 ls2 S2
        exact ih (i + 6) h' c' s' ad H2 locs2 ls2 (by omega) (by omega) I' (by omega) (by omega) S2
      by_cases hk : xs i &&& 31 = 11
      · have sh : ∀ (x : Int32) (h1 : xh_H) (c1 s1 : Nat) (ad : Nat → Nat) (H4 : Heap) (locs4 : List Loc) (ls4 : Array Slot), lc_I h1 → c1 ≤ cc + 2 → s1 ≤ ss + 66 → xc_S D cy ad sp (fun q : Nat => s.heap.size ≤ q) s 8 h1 (lc_v i) H4 locs4 ls4 → W p l e room_1 s m #[Value.ref b] below meth c H4 locs4 c1 s1 (lw_Z below #[Value.ref b] s) (F0 m 538 ls4 (([.int x] : List Value).map (xh_v ad sp))) := by
          intro x h1 c1 s1 ad H4 locs4 ls4 I1 hc1 hs1 S4
          refine xS_u xP (scr := some (L, xs)) (mid := xi_L_law) (mi := xmi_L_law) rfl X (stop := 540) hscr 2 50 538 (lc_v i) [.int x] h1 c1 s1 540 ((5, .int x) :: lc_v i) [] h1 c1 s1 _ _ _ rfl (hR _ _ (by omega) (by omega)) S4 ?_
          intro H5 locs5 ls5 S5
          have S5' : xc_S D cy ad sp (fun q : Nat => s.heap.size ≤ q) s 8 h1 (lc_v i) H5 locs5 ls5 := ⟨S5.1, S5.2.1, lv_sub S5.2.2 [1, 2, 3, 4, 5] rfl⟩
          obtain ⟨y, h2, ⟨f2, hf2⟩, I2⟩ := lo_11b (L := L) (i := i) (xs := xs) (h := h1) (c := c1) (s := s1) hL hi6 I1
          refine xS_u xP (scr := some (L, xs)) (mid := xi_L_law) (mi := xmi_L_law) rfl X (stop := 562) hscr f2 50 540 (lc_v i) [] h1 c1 s1 562 (lc_v i) [.long y] h2 c1 s1 _ _ _ hf2 (hR _ _ (by omega) (by omega)) S5' ?_
          intro H6 locs6 ls6 S6
          refine xS_u xP (scr := some (L, xs)) (mid := xi_L_law) (mi := xmi_L_law) rfl X (stop := 564) hscr 2 50 562 (lc_v i) [.long y] h2 c1 s1 564 ((6, .long y) :: lc_v i) [] h2 c1 s1 _ _ _ rfl (hR _ _ (by omega) (by omega)) S6 ?_
          intro H7 locs7 ls7 S7
          have S7' : xc_S D cy ad sp (fun q : Nat => s.heap.size ≤ q) s 8 h2 (lc_v i) H7 locs7 ls7 := ⟨S7.1, S7.2.1, lv_sub S7.2.2 [1, 2, 3, 4, 5] rfl⟩
          refine xS_u xP (scr := some (L, xs)) (mid := xi_L_law) (mi := xmi_L_law) rfl X (stop := 999) hscr 2 50 564 (lc_v i) [] h2 c1 s1 999 (lc_v i) [] h2 c1 s1 _ _ _ rfl (hR _ _ (by omega) (by omega)) S7' ?_
          intro H8 locs8 ls8 S8
          exact nx h2 c1 s1 ad H8 locs8 ls8 I2 hc1 hs1 S8
        obtain ⟨f, hf⟩ := lo_11a (L := L) (i := i) (xs := xs) (h := h) (c := cc) (s := ss) hL hi6 hk
        refine xS_u xP (scr := some (L, xs)) (mid := xi_L_law) (mi := xmi_L_law) rfl X hscr f 50 23 (lc_v i) [] h cc ss 535 (lc_v i) [.ref 71, .int (xs (i + 3)), .int (xs (i + 2)), .int (xs (i + 1)), .ref 0] h cc ss _ _ _ hf (hR _ _ (by omega) (by omega)) S ?_
        intro H3 locs3 ls3 S3
        have s0 : h.1[0]? = some (0, 9) := (lc_Iq I).2.1 0 _ rfl
        by_cases hv : so_ok h (xs (i + 1)) (xs (i + 2)) (xs (i + 3))
        · obtain ⟨f2, v, h1, he, l1, I1⟩ := cs_good I hv
          refine sh_lawR X s0 he ((lc_Iq I1).2.1 71 _ rfl) S3 ⟨by decide, by decide⟩ ⟨show cc + 0 ≤ 601024 by omega, show ss + 0 ≤ 7293034 by omega⟩ ?_
          intro H4 locs4 S4
          exact sh 0 _ _ _ ad H4 locs4 ls3 (lc_ul I1) (by omega) (by omega) S4
        · obtain ⟨f2, he⟩ := cs_bad (lc_Iq I) hv
          refine sh_lawT X hU hl s0 I.2.1 I.1.1 he S3 ⟨by decide, by decide⟩ ⟨show cc + 1 ≤ 601024 by omega, show ss + 6 ≤ 7293034 by omega⟩ ?_
          intro H4 locs4 ad4 S4
          exact sh 1 _ _ _ ad4 H4 locs4 ls3 I (by omega) (by omega) S4
      · obtain ⟨h', c', s', ⟨f, hf⟩, I', hc', hs'⟩ := ld_all (L := L) (i := i) (xs := xs) (c := cc) (s := ss) hL hi6 I hk
        refine xS_u xP (scr := some (L, xs)) (mid := xi_L_law) (mi := xmi_L_law) rfl X hscr f 50 23 (lc_v i) [] h cc ss 999 (lc_v i) [] h' c' s' _ _ _ hf (hR _ _ (by omega) (by omega)) S ?_
        intro H1 locs1 ls1 S1
        exact nx h' c' s' ad H1 locs1 ls1 I' hc' hs' S1
    · obtain ⟨f, hf⟩ := ld_end (L := L) (i := i) (xs := xs) (h := h) (c := cc) (s := ss) hL (by omega) (by omega)
      refine xS_u xP (scr := some (L, xs)) (mid := xi_L_law) (mi := xmi_L_law) rfl X hscr f 50 23 (lc_v i) [] h cc ss 1005 (lc_v i) [] h cc ss _ _ _ hf (hR _ _ (by omega) (by omega)) S ?_
      intro H1 locs1 ls1 S1
      exact ws_end C0 hsp X S1 (h' := h) (xR_of (f := 3) rfl) (by omega) (by omega)
set_option maxRecDepth 100000 in
theorem hv_f0 : ∀ j, j < 64 → xg 0 xf_h.2.2.1 12 j = if j = 0 then 128 else 0 := by decide +kernel
theorem lb_7 : ∀ k, k < 64 → lb 128 k = decide (k = 7) := by decide +kernel
theorem SI_f : SI xf_h := by
  have e9 : xg 0 xf_h.2.1 0 9 = nI 3 := by decide +kernel
  have e8 : xg 0 xf_h.2.1 0 8 = nI 0 := by decide +kernel
  refine ⟨⟨by decide +kernel, by decide +kernel, by decide +kernel⟩, fun mem sc x1 m12 x2 sc8 => ?_⟩
  rw [e9] at x1
  rw [e8] at x2
  have y1 := congrArg Int32.toInt x1
  have y2 := congrArg Int32.toInt x2
  rw [nI_toInt (by decide), nI_toInt (by omega)] at y1 y2
  have m3 : mem = 3 := by omega
  have s0 : sc = 0 := by omega
  subst m3
  subst s0
  refine ⟨fun k hk' => absurd hk' (Nat.not_lt_zero k), fun s s4 => ?_⟩
  rw [hv_lb, hv_f0 (s / 64) (by omega)]
  by_cases z : s / 64 = 0
  · rw [if_pos z, lb_7 (s % 64) (by omega)]
    by_cases y : s = 7
    · rw [y]; try rfl
    · rw [decide_eq_false (show ¬ s = 2 ^ 3 - 1 from y), decide_eq_false (by omega)]
  · rw [if_neg z, lb_0 (by omega), decide_eq_false (show ¬ s = 2 ^ 3 - 1 by omega)]
theorem VZ_f : VZ xf_h := fun mem vc x1 x2 x3 x4 k hk' => by
  rw [show xg 0 xf_h.2.1 35 3 = nI 0 by decide +kernel] at x3
  have y := congrArg Int32.toInt x3
  rw [nI_toInt (by decide), nI_toInt (by omega)] at y
  omega
theorem PI_f : PI xf_h := by
  refine ⟨fun q h1 z => ?_, fun q m h1 h2 m1 m12 => ?_⟩
  · rw [show xg none xf_h.2.2.2 14 6 = some 11 by decide +kernel] at h1
    exact absurd (Option.some.inj h1).symm z
  · rw [show xg 0 xf_h.2.1 14 7 = nI 0 by decide +kernel] at h2
    have y := congrArg Int32.toInt h2
    rw [nI_toInt (by decide), nI_toInt (by omega)] at y
    omega
theorem rwR_f : rwR xf_h := Or.inl ⟨by decide +kernel, by decide +kernel⟩
theorem lc_f : lc_I xf_h := ⟨a_fresh, by decide, by decide, ⟨0, by decide +kernel, by decide +kernel, by decide, fun k hk' => absurd hk' (Nat.not_lt_zero k)⟩, ⟨3, by decide, by decide +kernel, by decide +kernel⟩, ⟨0, by decide, by decide +kernel, by decide +kernel⟩, ⟨0, by decide, by decide +kernel, by decide +kernel⟩, ⟨0, by decide, by decide +kernel, by decide +kernel⟩, by decide +kernel, by decide +kernel, by unfold chr_; decide +kernel, by unfold plr; decide +kernel, SI_f, VZ_f, PI_f, rwR_f⟩
set_option maxRecDepth 100000 in
set_option maxHeartbeats 8000000 in
/-- from the entry, for every script of at most 3072 ints, the law comes to its end with true -/
theorem whole_start {p : Program} {e : Env} {s : State} {m : MethodId} {below : List Frame} {meth : Method} {c : Code} (l : Launch) (hl : l.stackTraces = false) {b L : Nat} {xs : Nat → Int32} (hL : L ≤ 3072) (C0 : lw_At p s m meth c b L xs) : W p l e room_1 s m #[Value.ref b] below meth c s.heap [] 0 0 (lw_Z below #[Value.ref b] s) (entryFrame m ([Value.ref b] : List Value).toArray 8) := by
  obtain ⟨D, cy, sp, hsp, X⟩ := xl_ctx C0
  have hU := ws_U C0
  have hl0 := lv_entry ([.ref b]) (n := 8) (Nat.le_of_ble_eq_true rfl)
  have hR : 12 ≤ room_1.frames ∧ 40 * 12 ≤ room_1.locals ∧ 72 ≤ room_1.cells ∧ 274345 ≤ room_1.slots := by decide
  rw [lg_entry_eq]
  refine xS_u xP (scr := none) (mid := xi_L_law) (mi := xmi_L_law) rfl X (ad := fun k => s.heap.size + k) (fun L xs z => by cases z) 3000 12 0 [(0, .float 0)] [] ([], [], [], []) 0 0 23 xf_lv [] xf_h 72 274345 _ _ _ (xu_b_ok xf_pre) hR ⟨⟨fun k q h => by simp [xh_ws] at h, ⟨fun i j p q h => by simp [xh_ws] at h, fun k q h => by simp [xh_ws] at h⟩, fun j => ?_⟩, va_S.rf, ?_⟩ ?_
  · show s.heap.size + (0 + j) = s.heap.size + j
    rw [Nat.zero_add]
  · have e0 : xl_m (fun k => s.heap.size + k) sp [(0, .float 0)] = [(0, .ref b)] := by
      show [(0, Value.ref (sp 0))] = [(0, Value.ref b)]
      rw [hsp]
    rw [e0]
    exact hl0
  intro H1 locs1 ls1 S1
  exact wl_loop l hl C0 hsp hL X hU (L + 1) 0 xf_h 72 274345 _ H1 locs1 ls1 (by omega) (by omega) lc_f (by omega) (by omega) S1
end XWS
end
