section XOK
def xm_ini (mi : xm_M) : Bool := Nat.beq mi.2.2.2.2.2.1 2
def xm_ok (mi : xm_M) : Prop :=
  Cond.code mi.2.1 mi.2.2.1 mi.2.2.2.1 mi.2.2.2.2.1 ∈ xG ∧ Cond.initialized mi.2.1.cls ∈ xG ∧ mi.1 = mi.2.1.cls ∧ _root_.Jvm.plainName mi.2.1.cls = true ∧ (mi.2.1.cls ≠ "java/lang/invoke/MethodHandle" ∧ mi.2.1.cls ≠ "java/lang/invoke/VarHandle" ∧ (parseMethodDescriptor mi.2.1.desc).map (fun d => d.parameters.length) = some mi.2.2.2.2.2.2.1) ∧ mi.2.2.2.1 ≤ 20 ∧
  (mi.2.2.2.2.2.1 = 0 → Cond.instanceMethod mi.2.1 ∈ xG ∧ Cond.selects mi.2.1.cls mi.2.1 mi.2.1 ∈ xG ∧ ∃ T N, vwCl[mi.2.2.2.2.2.2.2]? = some (mi.2.1.cls, T, N)) ∧ (mi.2.2.2.2.2.1 = 1 → Cond.static mi.2.1 ∈ xG) ∧ (mi.2.2.2.2.2.1 = 2 → Cond.instanceMethod mi.2.1 ∈ xG ∧ mi.2.1.name = "<init>" ∧ mi.2.2.2.2.1 = none)
def xr_c (M : Nat → Option xm_M) (own : String) (r : xr_R) : Bool := match r.1 with
  | .invokevirtual idx => (match r.2.2.2.1 with
    | 3 => xw_b r.2.2.2.2.1 r.2.2.2.2.2 (.methodLink own idx yJ0_length_8abf5) && (M r.2.2.1).isNone
    | 4 => xw_b r.2.2.2.2.1 r.2.2.2.2.2 (.methodLink own idx yJ0_charAt_5068e) && (M r.2.2.1).isNone
    | _ => (match M r.2.2.1 with
      | some mj => xw_b r.2.2.2.2.1 r.2.2.2.2.2 (.methodLink own idx mj.2.1)
      | none => false))
  | .invokestatic idx => (match r.2.2.2.1 with
    | 2 => xw_b r.2.2.2.2.1 r.2.2.2.2.2 (.methodLink own idx Lib.Math.min.name)
    | _ => (match M r.2.2.1 with
      | some mj => xw_b r.2.2.2.2.1 r.2.2.2.2.2 (.methodLink own idx mj.2.1)
      | none => false))
  | .invokespecial idx => (match r.2.2.2.1 with
    | 1 => xw_b r.2.2.2.2.1 r.2.2.2.2.2 (.methodLink own idx objectInit)
    | _ => (match M r.2.2.1 with
      | some mj => xw_b r.2.2.2.2.1 r.2.2.2.2.2 (.methodLink own idx mj.2.1)
      | none => false))
  | .getstatic idx => xw_b r.2.2.2.2.1 r.2.2.2.2.2 (.fieldLink own idx RX2 "FACTORIALS" "[J")
  | _ => true
/-- the program's tables hold -/
def xP_ok (M : Nat → Option xm_M) (Cd : Nat → Nat → Option xr_R) : Prop :=
  (∀ (mid : Nat) (mi : xm_M), M mid = some mi → (mi.2.2.2.2.2.1 ≠ 3 → xm_ok mi) ∧ ∀ (pc : Nat) (r : xr_R), Cd mid pc = some r → xr_b mi.1 (xm_ini mi) mi.2.2.1 pc r = true ∧ xr_c M mi.1 r = true) ∧ (Cond.instanceMethod objectInit ∈ xG ∧ Cond.code objectInit ⟨#[0xb1]⟩ 1 none ∈ xG) ∧ Cond.static Lib.Math.min.name ∈ xG ∧ Cond.initialized "java/lang/Math" ∈ xG ∧ Cond.code Lib.Math.min.name Lib.Math.min.code 2 (some .int) ∈ xG
theorem xG_good {w : Cond} (h : w ∈ xG) : w ∈ xG ∧ ((w.onTables && w.keeps) = true ∨ ∃ ty, w = .arrayClass ty) := ⟨h, good_of_word (List.mem_filter.mp h).2⟩
theorem xG_in {mi : xm_M} (h : xm_ok mi) : GoodIn xG (Cond.code mi.2.1 mi.2.2.1 mi.2.2.2.1 mi.2.2.2.2.1 :: xG) := fun w hw => by
  rcases List.mem_cons.mp hw with rfl | hw
  · exact xG_good h.1
  · exact xG_good hw
def xm_rm (d mc ms : Nat) : Room := { frames := d, cells := mc, slots := ms, locals := 40 * d }
/-- a call's start and end, in our words -/
def xq_P (D : va_G) (cy : Nat → ClassId) (ad sp : Nat → Nat) (h : xh_H) (sz : Nat) (U : State) : Prop :=
  U.heap.size = sz ∧ xh_at D cy ad (fun _ => True) h U.heap ∧ va_K D vwCl (xh_ts cy) U ∧ xo_ok sp (va_A (xh_ws ad cy h) sz) U U.heap
def xq_Q (D : va_G) (cy : Nat → ClassId) (ad sp : Nat → Nat) (v : Option Value) (h1 : xh_H) (A1 : Nat → Prop) : Array Value → State → Outcome → State → Prop := fun _ st oc t => oc = .returned (v.map (xh_v ad sp)) ∧ xh_at D cy ad A1 h1 t.heap ∧ va_F A1 st t
def xq_M (l : Launch) (D : va_G) (cy : Nat → ClassId) (ad sp : Nat → Nat) (mi : xm_M) (As : List Value) (h : xh_H) (sz d : Nat) (v : Option Value) (h1 : xh_H) (mc ms : Nat) : Prop :=
  Met l mi.2.1 (Cond.code mi.2.1 mi.2.2.1 mi.2.2.2.1 mi.2.2.2.2.1 :: xG) (xm_rm d mc ms) (va_Pc (As.map (xh_v ad sp)) (xq_P D cy ad sp h sz)) (xq_Q D cy ad sp v h1 (va_A (xh_ws ad cy h) sz)) mc ms (va_A (xh_ws ad cy h) sz)
theorem xh_at.weaken {D : va_G} {cy : Nat → ClassId} {ad : Nat → Nat} {A B : Nat → Prop} {h : xh_H} {H : Heap} (hat : xh_at D cy ad A h H) (hAB : ∀ q, A q → B q) : xh_at D cy ad B h H := ⟨hat.1, hat.2.1.weaken (fun _ q _ hq => hAB q.1 hq), hat.2.2⟩
variable {p : Program} {l : Launch} {e : Env} {R : Room} {s : State} {m : MethodId} {args : Array Value} {below : List Frame} {meth : Method} {c : Code} {H : Heap} {locs : List Loc} {cells slots : Nat} {Q : State → Prop}
variable {cc : ByteArray} {pc : Nat} {ls : Array Slot} {rest st0 : List Value} {D : va_G} {A A1 : Nat → Prop} {ad sp : Nat → Nat} {cy : Nat → ClassId} {nL mc ms : Nat} {own : String} {ini : Bool} {a : Array Value}
theorem xa_call {v : Option Value} {h1 : xh_H} (hr : va_Run p l e R s m args below meth c H locs cells slots mc ms (F0 m pc ls st0) rest (xq_Q D cy ad sp v h1 A1 a) A1) (hS : va_S A s.heap H locs) (hF : ∀ q, A1 q → A q)
    (kk : ∀ (H1 : Heap) (locs1 : List Loc), xh_at D cy ad A h1 H1 → va_S A s.heap H1 locs1 → W p l e R s m args below meth c H1 locs1 (cells + mc) (slots + ms) Q (F0 m (pc + 3) ls ((v.map (xh_v ad sp)).toList ++ rest))) : W p l e R s m args below meth c H locs cells slots Q (F0 m pc ls st0) := by
  intro T hT X
  obtain ⟨w, st₀, t, T', L, h0, X', hL, e1, e2, ⟨hv, hat, hz, hk⟩, st⟩ := hr T hT X
  cases hv
  rw [h0] at hz hk
  obtain ⟨t2, a1, b1⟩ := kk T'.heap (locs ++ L) (by rw [e1]; exact hat.weaken hF)
    ⟨Nat.le_trans hS.1 (by rw [e1]; exact hz), fun q h1 h2 => by rw [e1, hk q (Nat.lt_of_lt_of_le h1 hS.1) (fun z => h2 (hF q z))]; exact hS.2.1 q h1 h2, fun q hq => by
      rcases List.mem_append.mp hq with h | h
      · exact hS.2.2 q h
      · exact hF _ (hL q h)⟩ T' rfl X'
  exact ⟨t2, st t2 a1, b1⟩
theorem xq_free {h : xh_H} {H0 : Heap} (hat : xh_at D cy ad A h H) (hS : va_S A H0 H locs) (hA : ∀ q, H0.size ≤ q → A q) : ∀ q, va_A (xh_ws ad cy h) H.size q → A q := by
  intro q hq
  rcases hq with ⟨k, x, hk⟩ | hq
  · exact hat.2.1.2 k (q, x) hk
  · exact hA q (Nat.le_trans hS.1 hq)
theorem xq_blind (vs : List Value) (h : xh_H) (sz : Nat) : FrameBlind (va_Pc vs (xq_P D cy ad sp h sz)) := by
  intro a U g mk hp
  obtain ⟨h0, h1, h2, h3, h4⟩ := hp
  exact ⟨h0, h1, h2, va_K.moved (u := U) (U := U.calling g mk a) (Vm.Alike.refl U.vm) h3, xo_ok.same (s := U) (U := U.calling g mk a) rfl h4⟩
theorem xq_pre {h : xh_H} {vs : List Value} (X : xc_X p s m args meth c cc nL own ini D cy A sp) (hat : xh_at D cy ad A h H) (hS : va_S A s.heap H locs) : ∀ U : State, U.heap = H → s.WarmedH U.vm → va_Pc vs (xq_P D cy ad sp h H.size) vs.toArray U := by
  obtain ⟨hx, hb, hml, hown, hts, hK, hA, hO, hini⟩ := X
  intro U hU hW
  refine ⟨rfl, by rw [hU], by rw [hU]; exact hat.weaken (fun _ _ => trivial), va_K.moved hW.alike hK, ?_⟩
  rw [hU]
  exact ((hO.kept hS.2.1).narrow (xq_free hat hS hA)).warm hW
theorem lv_args_m (vs : List Value) : ∀ i : Nat, lv_args i (vs.map (xh_v ad sp)) = xl_m ad sp (lv_args i vs) := by
  induction vs with
  | nil => intro i; rfl
  | cons v t ih =>
    intro i
    show (i, xh_v ad sp v) :: lv_args _ (t.map (xh_v ad sp)) = (i, xh_v ad sp v) :: xl_m ad sp (lv_args _ t)
    rw [ih, xh_v_cat]
theorem lg_sl_len (vs : List Value) : (lg_sl vs).length = xm_cat vs := by
  induction vs with
  | nil => rfl
  | cons v t ih =>
    have : lg_sl (v :: t) = (if v.category = 2 then [Slot.val v, .second] else [.val v]) ++ lg_sl t := by simp [lg_sl]
    rw [this, List.length_append, ih]
    have : xm_cat (v :: t) = v.category + xm_cat t := by simp [xm_cat]
    rw [this]
    rcases lv_cat v with h | h <;> simp [h]
theorem xm_cat_m (vs : List Value) : xm_cat (vs.map (xh_v ad sp)) = xm_cat vs := by
  simp [xm_cat, List.map_map, Function.comp_def, xh_v_cat]
/-- a run, on the machine: up to its return -/
def xS_ok (M : Nat → Option xm_M) (Cd : Nat → Nat → Option xr_R) (f : Nat) : Prop := ∀ (p : Program) (l : Launch) (e : Env) (R : Room) (s : State) (m : MethodId) (args : Array Value) (below : List Frame) (meth : Method) (c : Code) (H : Heap) (locs : List Loc) (Q : State → Prop) (ls : Array Slot) (D : va_G) (A : Nat → Prop) (ad sp : Nat → Nat) (cy : Nat → ClassId)
    (scr : Option (Nat × (Nat → Int32))) (d mid : Nat) (mi : xm_M) (pc : Nat) (lv : List (Nat × Value)) (st : List Value) (h : xh_H) (cells slots : Nat) (v : Option Value) (h' : xh_H) (c' s' : Nat),
    xe_x M Cd scr f d mid mi (pc, lv, st, h, cells, slots) = some (v, h', c', s') → M mid = some mi → xc_X p s m args meth c mi.2.2.1 mi.2.2.2.1 mi.1 (xm_ini mi) D cy A sp → (d ≤ R.frames ∧ 40 * d ≤ R.locals ∧ c' ≤ R.cells ∧ s' ≤ R.slots) → (∀ L xs, scr = some (L, xs) → va_X (sp 0) L xs s s.heap ∧ sp 0 < s.heap.size ∧ ¬ A (sp 0)) → xc_S D cy ad sp A s mi.2.2.2.1 h lv H locs ls →
    (∀ (H1 : Heap) (locs1 : List Loc) (ls1 : Array Slot) (lv1 : List (Nat × Value)) (pc1 : Nat) (ri : Instr) (st1 : List Value), xc_S D cy ad sp A s mi.2.2.2.1 h' lv1 H1 locs1 ls1 → decode mi.2.2.1 pc1 = .ok (ri, 1) → xe_rv ri mi.2.2.2.2.1 st1 = some v → W p l e R s m args below meth c H1 locs1 c' s' Q (F0 m pc1 ls1 (st1.map (xh_v ad sp)))) →
    W p l e R s m args below meth c H locs cells slots Q (F0 m pc ls (st.map (xh_v ad sp)))
/-- a method's end -/
theorem xe_rv_ok {ri : Instr} {ret : Option FieldType} {st1 : List Value} {v : Option Value} {h' : xh_H} {lv1 : List (Nat × Value)} (hrv : xe_rv ri ret st1 = some v) (hx : p.tables.exec = Jvm.exec) (hb : c.code = cc) (hr : meth.sig.returnType = ret) (hlocks : meth.locks = false) (S : xc_S D cy ad sp A s nL h' lv1 H locs ls) (hd : decode cc pc = .ok (ri, 1)) :
    W p l e R s m args below meth c H locs cells slots (MQ below (xq_Q D cy ad sp v h' A) args s cells slots A) (F0 m pc ls (st1.map (xh_v ad sp))) := by
  obtain ⟨hat, hS, hl⟩ := S
  unfold xe_rv at hrv
  split at hrv
  · split at hrv
    · rename_i x
      split at hrv
      · cases hrv
        exact W.iret hx hb hr (fun t ht hW => ⟨rfl, by rw [ht]; exact hat, hS.F ht⟩) hS.2.2 hd hlocks
      · obtain ⟨h1, h2⟩ := xw_c hrv
        cases h2
        have h1 : x = 0 ∨ x = 1 := by simpa using h1
        refine W.zret (ty := .boolean) hx hb hr ?_ (fun t ht hW => ⟨rfl, by rw [ht]; exact hat, hS.F ht⟩) hS.2.2 hd hlocks
        rcases h1 with rfl | rfl <;> rfl
      · cases hrv
    · cases hrv
  · split at hrv
    · split at hrv
      · cases hrv
        exact W.lret hx hb hr (fun t ht hW => ⟨rfl, by rw [ht]; exact hat, hS.F ht⟩) hS.2.2 hd hlocks
      · cases hrv
    · cases hrv
  · split at hrv
    · split at hrv
      · cases hrv
        exact W.aret hx hb hr (Or.inl ⟨_, rfl⟩) (Or.inr ⟨_, rfl⟩) (fun t ht hW => ⟨rfl, by rw [ht]; exact hat, hS.F ht⟩) hS.2.2 hd hlocks
      · cases hrv
    · cases hrv
  · split at hrv
    · split at hrv
      · cases hrv
        exact W.vret hx hb hr (fun t ht hW => ⟨rfl, by rw [ht]; exact hat, hS.F ht⟩) hS.2.2 hd hlocks
      · cases hrv
    · cases hrv
  · cases hrv
/-- a run gives a contract -/
theorem xe_met {M : Nat → Option xm_M} {Cd : Nat → Nat → Option xr_R} {f : Nat} (hP : xP_ok M Cd) (hf : xS_ok M Cd f) {d mid : Nat} {mi : xm_M} {As : List Value} {h : xh_H} {v : Option Value} {h' : xh_H} {mc ms : Nat} (he : xe_x M Cd none f d mid mi (0, lv_args 0 As, [], h, 0, 0) = some (v, h', mc, ms)) (hm : M mid = some mi) (hok : xm_ok mi) (hfit : xm_cat As ≤ mi.2.2.2.1) (l : Launch) (sz : Nat) : xq_M l D cy ad sp mi As h sz d v h' mc ms := by
  refine Met.ofW (cc := mi.2.2.1) (maxL := mi.2.2.2.1) (ret := mi.2.2.2.2.1) hok.2.2.2.1 rfl ?_
  intro p e s m args below meth c s₁ B hml hv
  obtain ⟨rfl, hsz, hat, hK, hO⟩ := hv
  have hts := atoms_spec (ws := Cond.code mi.2.1 mi.2.2.1 mi.2.2.2.1 mi.2.2.2.2.1 :: xG) B.pre
  have hown : s.vm.findClass mi.1 = some m.cls := by rw [hok.2.2.1]; exact findClass_of_methodNamed B.named
  have hin : xm_ini mi = true → meth.name = "<init>" := fun z => by rw [(name_of_methodNamed B.named B.method).1]; exact (hok.2.2.2.2.2.2.2.2 (xw_beq z)).2.1
  have hl := lv_entry (As.map (xh_v ad sp)) (n := mi.2.2.2.1) (by rw [lg_sl_len, xm_cat_m]; exact hfit)
  rw [lv_args_m] at hl
  rw [lg_entry_eq]
  subst hsz
  have hD := hat.2.1.self (sz := s.heap.size)
  refine hf p l e _ s m _ below meth c s.heap [] _ _ D (va_A (xh_ws ad cy h) s.heap.size) ad sp cy none d mid mi 0 (lv_args 0 As) [] h 0 0 v h' mc ms he hm ⟨B.exec, B.bytes, hml, hown, fun w hw => hts w (List.mem_cons_of_mem _ hw), hK, fun q hq => Or.inr hq, hO, hin⟩ ⟨Nat.le_refl _, Nat.le_refl _, Nat.le_refl _, Nat.le_refl _⟩ (fun L xs z => by cases z) ⟨⟨hat.1, hD, hat.2.2⟩, va_S.rf, hl⟩ ?_
  intro H1 locs1 ls1 lv1 pc1 ri st1 S1 hd1 hrv
  exact xe_rv_ok hrv B.exec B.bytes B.returns B.notSynchronized S1 hd1
end XOK
