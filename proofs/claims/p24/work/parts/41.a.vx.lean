section
/-! ===== BEGIN exceptions that leave a method, and their catching by the caller (launches without stack traces) ===== -/
section VXA
/-! The laws vx_back, vx_callV, vx_callS, vx_callSW, vx_throw0, vx_throwS follow proofs of the library, with one case more: JvmDerived/Free/Laws.lean (Back.of_free), Shelf42/LK1.lean (callV, callS), Shelf/KitTraced.lean (throwNew0V, throwNewS). -/

/-- where a method has thrown q: the class by its name, the cell, what was written, the world -/
def vx_T (XC : String → State → State → Prop) (st : State) (q : Addr) (t : State) (mc ms : Nat) (free : Addr → Prop) : Prop :=
  ∃ (E : String) (ce : Cell) (L : List Loc), XC E st t ∧ t.heap[q]? = some ce ∧ ce.vm = .none ∧ st.vm.findClass E = some ce.cls ∧ st.WarmedH t.vm ∧ st.sameButNew ({ t with vm := st.vm } : State) L mc ms ∧ ∀ z ∈ L, free z.base
def vx_Q (Qc : Array Value → State → Outcome → State → Prop) (XC : String → State → State → Prop) (mc ms : Nat) (free : Addr → Prop) : Array Value → State → Outcome → State → Prop := fun a st o t =>
  (Qc a st o t ∧ ∃ L, FrameEnd st o t L mc ms ∧ ∀ q ∈ L, free q.base) ∨ ∃ q, o = .threw q ∧ vx_T XC st q t mc ms free
/-- a callee that returns or throws -/
def vx_Met (l : Launch) (y : MethodName) (ws : List Cond) (rm : Room) (Pc : Array Value → State → Prop) (Qc : Array Value → State → Outcome → State → Prop) (XC : String → State → State → Prop) (mc ms : Nat) (free : Addr → Prop) : Prop :=
  MetFree l y (headSpec ws rm) Pc (fun _ _ _ _ _ => True) (vx_Q Qc XC mc ms free)
def vx_Post (XC : String → State → State → Prop) (mc ms : Nat) (free : Addr → Prop) : Pt → Array Value → Addr → Pt → Prop := fun A a q B =>
  ∃ (g : JFrame) (mk : MethodId) (t : State) (L : List Loc) (E : String) (ce : Cell), B.U.heap = t.heap ∧ B.U.vm = t.vm ∧ XC E (A.U.calling g mk a) t ∧ t.heap[q]? = some ce ∧ ce.vm = .none ∧ A.U.vm.findClass E = some ce.cls ∧ B.locs = A.locs ++ L ∧ (∀ z ∈ L, free z.base) ∧ B.cells = A.cells + mc ∧ B.slots = A.slots + ms
def vx_Back (l : Launch) (R : Room) (p : Program) (e : Env) (below : List Frame) (s : State) (sargs : Array Value) (y : MethodName) (len W9 : Nat)
    (Pre : Pt → Array Value → Prop) (Post : Pt → Array Value → Option Value → Pt → Prop) (PostX : Pt → Array Value → Addr → Pt → Prop) : Prop :=
  ∀ (m : MethodId) (meth : Method) (c : Code) (A : Pt) (g : JFrame) (ig : Instr) (mk : MethodId) (a : Array Value),
    Stand p l e R s m sargs below meth c A.U A.locs A.cells A.slots → g.method = m → g.locals.size = c.maxLocals → decode c.code g.pc = .ok (ig, len) →
    2 * g.monitorRoom + (g.stack.map fun v => v.category).sum ≤ W9 → A.U.methodNamed? y = some mk → Pre A a →
    (∃ (v : Option Value) (B : Pt), Stand p l e R s m sargs below meth c B.U B.locs B.cells B.slots ∧ Post A a v B ∧
      Steps p.tables e below (doInvoke e (A.U.setTop g) [] mk a).1 (B.U.setTop { g with pc := g.pc + len, stack := v.toList ++ g.stack })) ∨
    (∃ (q : Addr) (B : Pt), Stand p l e R s m sargs below meth c B.U B.locs B.cells B.slots ∧ PostX A a q B ∧
      Steps p.tables e below (doInvoke e (A.U.setTop g) [] mk a).1 ((B.U.setTop g).pushFrame (.throwing q)))
section Payer
variable {l : Launch} {R : Room} {p : Program} {e : Env} {below : List Frame} {s : State} {sargs : Array Value} {y : MethodName} {len W9 : Nat}
theorem vx_back {ws : List Cond} {rm : Room} {Pc : Array Value → State → Prop} {Qc : Array Value → State → Outcome → State → Prop} {XC : String → State → State → Prop} {mc ms : Nat} {free : Addr → Prop} {bytes : ByteArray} {maxL : Nat} {ret : Option FieldType}
    (hM : vx_Met l y ws rm Pc Qc XC mc ms free) (hblind : FrameBlind Pc) (hrc : rm.cells = mc) (hrs : rm.slots = ms)
    (hframes : rm.frames + 1 ≤ R.frames) (hlocals : W9 + (maxL + 11) + rm.locals ≤ R.locals)
    (hws : ∀ w ∈ ws, ∀ a' U, s.WarmedH U.vm → w.before a' U = true) (hcode : Cond.code y bytes maxL ret ∈ ws) (hinit : ∀ a' U, s.WarmedH U.vm → (Cond.initialized y.cls).before a' U = true) :
    vx_Back l R p e below s sargs y len W9 (PreOf R mc ms Pc) (PostOf Qc mc ms free) (vx_Post XC mc ms free) := by
  intro m meth c A g ig mk a X hg hsize hdg hW hn hp
  have h1 : (headSpec ws rm).pre.before a A.U = true := atoms_intro fun w hw => hws w hw _ _ X.warmed
  have h2 : (Cond.code y bytes maxL ret).before a A.U = true := hws _ hcode _ _ X.warmed
  have h3 : (Cond.initialized y.cls).before a A.U = true := hinit _ _ X.warmed
  have h4 : A.cells + (headSpec ws rm).room.cells ≤ R.cells := by rw [show (headSpec ws rm).room.cells = mc from hrc]; exact hp.1
  have h5 : A.slots + (headSpec ws rm).room.slots ≤ R.slots := by rw [show (headSpec ws rm).room.slots = ms from hrs]; exact hp.2.1
  have hPc : Pc a (A.U.calling g mk a) := hblind _ _ _ _ hp.2.2
  obtain ⟨U, Ls, c0, s0⟩ := A
  dsimp only [Pt.U, Pt.locs, Pt.cells, Pt.slots] at h1 h2 h3 h4 h5 X hn hPc ⊢
  obtain ⟨methY, cY, hmY, hcY, -, hlY, -, -, -, -⟩ := Cond.code_spec hn h2
  obtain ⟨kY, hkY, -⟩ := className_of_methodNamed hn
  have hinitY : kY.init = .initialized := Cond.initialized_spec (findClass_of_methodNamed hn) hkY h3
  have h : At U g.method c below := by rw [hg]; exact X.here
  have hlocals9 : W9 + (maxL + 11) + (headSpec ws rm).room.locals ≤ R.locals := hlocals
  have happ : (headSpec ws rm).appliesLoose y e.platform (U.calling g mk a) = true :=
    Spec.appliesLoose_calling (g := g) h hdg hn hkY hinitY
      (X.room_calling (g := g) (R' := (headSpec ws rm).room) hsize hmY hcY hframes (by rw [hlY]; omega) h4 h5) h1
  obtain ⟨mid, hmid⟩ := h.above
  have hfr : (U.setTop g).frames = (.java g :: mid) ++ below := by rw [State.frames_setTop' g h.top, hmid]; rfl
  obtain ⟨o, s₂, hsteps, -, hend, hq⟩ := Steps.callFree hM p X.admits X.cas X.clock (acts := []) hfr happ hPc trivial
  have hq' : vx_Q Qc XC mc ms free a (U.calling g mk a) o s₂ := hq
  rw [State.frames_setTop' g h.top] at hend
  obtain ⟨g₀, hg0⟩ := Option.isSome_iff_exists.mp h.top
  obtain ⟨r, hr⟩ := State.topJava?_eq_some.mp hg0
  have hr' : (({ U with heap := s₂.heap, slotsUsed := s₂.slotsUsed } : State).setVm s₂.vm).frames = .java g₀ :: r := hr
  rcases hq' with ⟨hqc, L, hfe, hL⟩ | ⟨q, rfl, E, ce, L, hx, hce, hcv, hcl, hW₂, hsm, hL⟩
  · obtain ⟨⟨v, rfl⟩, hW₂, e2, q2, q3, q4, q5, q6⟩ := id hfe
    have e3 : s₂ = ({ (U.calling g mk a).setFrames s₂.frames with heap := s₂.heap, slotsUsed := s₂.slotsUsed } : State).setVm s₂.vm := by
      have : s₂ = ({ s₂ with vm := (U.calling g mk a).vm } : State).setVm s₂.vm := rfl
      rw [e2] at this
      exact this
    obtain ⟨c₂, i₂, len₂, hc₂, hd₂, hf₂⟩ := hend
    have hW' : U.WarmedH s₂.vm := hW₂
    have hcc : c₂ = c := by
      have h1 : s₂.code? g.method = U.code? g.method := by
        rw [State.code?_eq, State.code?_eq, hW'.alike.method?]
      exact Option.some.inj (hc₂.symm.trans (h1.trans h.code))
    subst hcc
    have hlen : len₂ = len := by rw [hdg] at hd₂; cases hd₂; rfl
    subst hlen
    have hs₂ : s₂ = (({ U with heap := s₂.heap, slotsUsed := s₂.slotsUsed } : State).setVm s₂.vm).setTop { g with pc := g.pc + len₂, stack := v.toList ++ g.stack } := by
      refine e3.trans ?_
      rw [hf₂, State.calling_eq h.top, State.setFrames_setFrames, State.setTop_of_frames _ hr', hr]
      rfl
    have hsame : U.sameButNew ({ U with heap := s₂.heap, slotsUsed := s₂.slotsUsed } : State) L mc ms := by
      refine ⟨?_, q2, q3, q4, q5, q6⟩
      obtain ⟨t, ht, -⟩ := State.frames_cons hr
      show ({ U with heap := s₂.heap, slotsUsed := s₂.slotsUsed } : State) = { U.setFrames U.frames with heap := s₂.heap, slotsUsed := s₂.slotsUsed }
      rw [State.setFrames_self ht]
    subst hg
    refine Or.inl ⟨v, ⟨(({ U with heap := s₂.heap, slotsUsed := s₂.slotsUsed } : State).setVm s₂.vm), Ls ++ L, c0 + mc, s0 + ms⟩,
      ⟨X.admits, X.cas, X.clock, X.frames, X.room, X.hears, X.method, X.code, (X.here.setHeapUsed s₂.heap s₂.slotsUsed).setVm hW'.alike, X.tail, State.WarmedH.trans X.warmed hW', X.limits, X.bytes, X.same.trans (hsame.setVm s.vm)⟩,
      ⟨g, mk, s₂, L, rfl, rfl, hqc, rfl, hL, rfl, rfl⟩, ?_⟩
    show Steps p.tables e below _ ((({ U with heap := s₂.heap, slotsUsed := s₂.slotsUsed } : State).setVm s₂.vm).setTop { g with pc := g.pc + len₂, stack := v.toList ++ g.stack })
    rw [← hs₂]
    exact hsteps
  · obtain ⟨e2, q2, q3, q4, q5, q6⟩ := id hsm
    have e3 : s₂ = ({ (U.calling g mk a).setFrames s₂.frames with heap := s₂.heap, slotsUsed := s₂.slotsUsed } : State).setVm s₂.vm := by
      have : s₂ = ({ s₂ with vm := (U.calling g mk a).vm } : State).setVm s₂.vm := rfl
      rw [e2] at this
      exact this
    have hf₂ : s₂.frames = .throwing q :: .java g :: U.frames.tail := hend
    have hW' : U.WarmedH s₂.vm := hW₂
    have hs₂ : s₂ = ((({ U with heap := s₂.heap, slotsUsed := s₂.slotsUsed } : State).setVm s₂.vm).setTop g).pushFrame (.throwing q) := by
      refine e3.trans ?_
      rw [hf₂, State.calling_eq h.top, State.setFrames_setFrames, State.pushFrame, State.frames_setTop _ hr', State.setTop_of_frames _ hr', State.setFrames_setFrames, hr]
      rfl
    have hsame : U.sameButNew ({ U with heap := s₂.heap, slotsUsed := s₂.slotsUsed } : State) L mc ms := by
      refine ⟨?_, q2, q3, q4, q5, q6⟩
      obtain ⟨t, ht, -⟩ := State.frames_cons hr
      show ({ U with heap := s₂.heap, slotsUsed := s₂.slotsUsed } : State) = { U.setFrames U.frames with heap := s₂.heap, slotsUsed := s₂.slotsUsed }
      rw [State.setFrames_self ht]
    subst hg
    refine Or.inr ⟨q, ⟨(({ U with heap := s₂.heap, slotsUsed := s₂.slotsUsed } : State).setVm s₂.vm), Ls ++ L, c0 + mc, s0 + ms⟩,
      ⟨X.admits, X.cas, X.clock, X.frames, X.room, X.hears, X.method, X.code, (X.here.setHeapUsed s₂.heap s₂.slotsUsed).setVm hW'.alike, X.tail, State.WarmedH.trans X.warmed hW', X.limits, X.bytes, X.same.trans (hsame.setVm s.vm)⟩,
      ⟨g, mk, s₂, L, E, ce, rfl, rfl, hx, hce, hcv, hcl, rfl, hL, rfl, rfl⟩, ?_⟩
    show Steps p.tables e below _ (((({ U with heap := s₂.heap, slotsUsed := s₂.slotsUsed } : State).setVm s₂.vm).setTop g).pushFrame (.throwing q))
    rw [← hs₂]
    exact hsteps
end Payer
section Calls
variable {p : Program} {l : Launch} {e : Env} {R : Room} {s : State} {m : MethodId} {args : Array Value} {below : List Frame} {meth : Method} {c : Code} {T : State} {locs : List Loc} {cells slots : Nat}
theorem vx_callV (X : Stand p l e R s m args below meth c T locs cells slots) (hexec : p.tables.exec = Jvm.exec) {own C : String} {index : Nat} {y : MethodName} {bytes : ByteArray} {maxL : Nat} {ret : Option FieldType}
    (hown : s.vm.findClass own = some m.cls) (hlink : (Cond.methodLink own index y).before args s = true) (hinst : (Cond.instanceMethod y).before args s = true) (hsel : (Cond.selects C y y).before args s = true)
    (hcode : (Cond.code y bytes maxL ret).before args s = true) (hy : y.cls ≠ "java/lang/invoke/MethodHandle" ∧ y.cls ≠ "java/lang/invoke/VarHandle")
    {W9 : Nat} {Pre : Pt → Array Value → Prop} {Post : Pt → Array Value → Option Value → Pt → Prop} {PostX : Pt → Array Value → Addr → Pt → Prop} (hK : vx_Back l R p e below s args y 3 W9 Pre Post PostX)
    {b : Addr} {cellB : Cell} (hcell : T.heap[b]? = some cellB) (hobj : cellB.vm.isStatics = false) (hcls : s.vm.findClass C = some cellB.cls)
    {g : JFrame} (hg : g.method = m) (hsize : g.locals.size = c.maxLocals) {argsL rest : List Value} (hlen : ∀ sig, parseMethodDescriptor y.desc = some sig → argsL.length = sig.parameters.length)
    (hstack : g.stack = argsL.reverse ++ .ref b :: rest) (hW : 2 * g.monitorRoom + (rest.map fun v => v.category).sum ≤ W9) (hdg : decode c.code g.pc = .ok (.invokevirtual index, 3))
    (hpre : ∀ vm₁, s.WarmedH vm₁ → Pre ⟨T.setVm vm₁, locs, cells, slots⟩ (Value.ref b :: argsL).toArray) :
    (∃ (v : Option Value) (vm₁ : Vm) (B : Pt), s.WarmedH vm₁ ∧ Stand p l e R s m args below meth c B.U B.locs B.cells B.slots ∧ Post ⟨T.setVm vm₁, locs, cells, slots⟩ (Value.ref b :: argsL).toArray v B ∧
      ∀ target, Steps p.tables e below (B.U.setTop { g with pc := g.pc + 3, stack := v.toList ++ rest }) target → Steps p.tables e below (T.setTop g) target) ∨
    (∃ (q : Addr) (vm₁ : Vm) (B : Pt), s.WarmedH vm₁ ∧ Stand p l e R s m args below meth c B.U B.locs B.cells B.slots ∧ PostX ⟨T.setVm vm₁, locs, cells, slots⟩ (Value.ref b :: argsL).toArray q B ∧
      Steps p.tables e below (T.setTop g) ((B.U.setTop { g with stack := rest }).pushFrame (.throwing q))) := by
  obtain ⟨mk, methM, hnamed, hmethM, hstM, habM⟩ := Cond.instanceMethod_spec hinst
  obtain ⟨methM', cM, hmethM', -, -, -, -, -, -, hsigM⟩ := Cond.code_spec hnamed hcode
  cases hmethM.symm.trans hmethM'
  obtain ⟨c2, r2, m2, q1, q2, q3, q4, kP, hkP, hkPi⟩ := Cond.selects_spec hsel
  cases hcls.symm.trans q1
  cases (State.methodFound?_of_named hnamed hy).symm.trans q2
  cases hnamed.symm.trans q3
  have hselP : selectMethod e.platform s.vm cellB.cls mk = .method mk := by rw [Launch.admits_selectMethod X.admits]; exact q4
  obtain ⟨vm₁, X₁, hstep₁⟩ := X.invokevirtual hexec hown hlink hnamed hmethM hstM hkP hkPi hy (a := b) (cell := cellB) hcell
    (fun z h => by rw [h] at hobj; cases hobj) hselP hmethM habM hkP hkPi (g := g) hg (argsL := argsL) (rest := rest) (hlen _ hsigM) hstack hdg
  rcases hK m meth c ⟨T.setVm vm₁, locs, cells, slots⟩ { g with stack := rest } (.invokevirtual index) mk (Value.ref b :: argsL).toArray X₁ hg hsize hdg hW (X₁.named hnamed) (hpre vm₁ X₁.warmed) with ⟨v, B, X', hpost, hsteps⟩ | ⟨q, B, X', hpost, hsteps⟩
  · exact Or.inl ⟨v, vm₁, B, X₁.warmed, X', hpost, fun target h => hstep₁ _ fun acts => by rw [doInvoke_state]; exact hsteps.trans h⟩
  · exact Or.inr ⟨q, vm₁, B, X₁.warmed, X', hpost, hstep₁ _ fun acts => by rw [doInvoke_state]; exact hsteps⟩
theorem vx_callS (X : Stand p l e R s m args below meth c T locs cells slots) (hexec : p.tables.exec = Jvm.exec) {own : String} {index : Nat} {y : MethodName} {bytes : ByteArray} {maxL : Nat} {ret : Option FieldType}
    (hown : s.vm.findClass own = some m.cls) (hlink : (Cond.methodLink own index y).before args s = true) (hstat : (Cond.static y).before args s = true) (hinit : (Cond.initialized y.cls).before args s = true)
    (hcode : (Cond.code y bytes maxL ret).before args s = true) (hy : y.cls ≠ "java/lang/invoke/MethodHandle" ∧ y.cls ≠ "java/lang/invoke/VarHandle")
    {W9 : Nat} {Pre : Pt → Array Value → Prop} {Post : Pt → Array Value → Option Value → Pt → Prop} {PostX : Pt → Array Value → Addr → Pt → Prop} (hK : vx_Back l R p e below s args y 3 W9 Pre Post PostX)
    {g : JFrame} (hg : g.method = m) (hsize : g.locals.size = c.maxLocals) {argsL rest : List Value} (hlen : ∀ sig, parseMethodDescriptor y.desc = some sig → argsL.length = sig.parameters.length)
    (hstack : g.stack = argsL.reverse ++ rest) (hW : 2 * g.monitorRoom + (rest.map fun v => v.category).sum ≤ W9) (hdg : decode c.code g.pc = .ok (.invokestatic index, 3))
    (hpre : ∀ vm₁, s.WarmedH vm₁ → Pre ⟨T.setVm vm₁, locs, cells, slots⟩ argsL.toArray) :
    (∃ (v : Option Value) (vm₁ : Vm) (B : Pt), s.WarmedH vm₁ ∧ Stand p l e R s m args below meth c B.U B.locs B.cells B.slots ∧ Post ⟨T.setVm vm₁, locs, cells, slots⟩ argsL.toArray v B ∧
      ∀ target, Steps p.tables e below (B.U.setTop { g with pc := g.pc + 3, stack := v.toList ++ rest }) target → Steps p.tables e below (T.setTop g) target) ∨
    (∃ (q : Addr) (vm₁ : Vm) (B : Pt), s.WarmedH vm₁ ∧ Stand p l e R s m args below meth c B.U B.locs B.cells B.slots ∧ PostX ⟨T.setVm vm₁, locs, cells, slots⟩ argsL.toArray q B ∧
      Steps p.tables e below (T.setTop g) ((B.U.setTop { g with stack := rest }).pushFrame (.throwing q))) := by
  obtain ⟨mk, hnamed⟩ := Cond.code_named hcode
  obtain ⟨methM, cM, hmethM, -, -, -, -, -, -, hsigM⟩ := Cond.code_spec hnamed hcode
  have hstatic : methM.isStatic = true := Cond.static_spec hnamed hmethM hstat
  obtain ⟨kP, hkP, -⟩ := className_of_methodNamed hnamed
  have hinitP : kP.init = .initialized := Cond.initialized_spec (findClass_of_methodNamed hnamed) hkP hinit
  obtain ⟨vm₁, X₁, hstep₁⟩ := X.invokestatic hexec hown hlink hnamed hmethM hstatic hkP hinitP hy (g := g) hg (argsL := argsL) (rest := rest) (hlen _ hsigM) hstack hdg
  rcases hK m meth c ⟨T.setVm vm₁, locs, cells, slots⟩ { g with stack := rest } (.invokestatic index) mk argsL.toArray X₁ hg hsize hdg hW (X₁.named hnamed) (hpre vm₁ X₁.warmed) with ⟨v, B, X', hpost, hsteps⟩ | ⟨q, B, X', hpost, hsteps⟩
  · exact Or.inl ⟨v, vm₁, B, X₁.warmed, X', hpost, fun target h => hstep₁ _ fun acts => by rw [doInvoke_state]; exact hsteps.trans h⟩
  · exact Or.inr ⟨q, vm₁, B, X₁.warmed, X', hpost, hstep₁ _ fun acts => by rw [doInvoke_state]; exact hsteps⟩
end Calls
theorem vx_cls {s : State} {T : State} {vm₁ : Vm} {E : String} {k : ClassId} (hW : s.WarmedH vm₁) (h : (T.setVm vm₁).vm.findClass E = some k) : s.vm.findClass E = some k := by
  have h1 : vm₁.findClass E = some k := h
  rw [hW.alike.findClass] at h1
  exact h1
/-- the method's frame g, with q thrown over it -/
def vx_W (p : Program) (l : Launch) (e : Env) (R : Room) (s : State) (m : MethodId) (args : Array Value) (below : List Frame) (meth : Method) (c : Code) (H : Heap) (locs : List Loc) (cells slots : Nat) (Q : State → Prop) (g : JFrame) (q : Addr) : Prop :=
  ∀ T : State, T.heap = H → Stand p l e R s m args below meth c T locs cells slots → ∃ t, Steps p.tables e below ((T.setTop g).pushFrame (.throwing q)) t ∧ Q t
def vx_Run (p : Program) (l : Launch) (e : Env) (R : Room) (s : State) (m : MethodId) (args : Array Value) (below : List Frame) (meth : Method) (c : Code) (H : Heap) (locs : List Loc) (cells slots mc ms : Nat) (g : JFrame) (rest : List Value) (Qa : State → Outcome → State → Prop) (XC : String → State → State → Prop) (free : Addr → Prop) : Prop :=
  ∀ T : State, T.heap = H → Stand p l e R s m args below meth c T locs cells slots →
    (∃ (v : Option Value) (st₀ t T' : State) (L : List Loc), st₀.heap = H ∧ Stand p l e R s m args below meth c T' (locs ++ L) (cells + mc) (slots + ms) ∧ (∀ q ∈ L, free q.base) ∧ T'.heap = t.heap ∧ T'.vm = t.vm ∧ Qa st₀ (.returned v) t ∧
      Goes p e below T g T' { g with pc := g.pc + 3, stack := v.toList ++ rest }) ∨
    (∃ (q : Addr) (st₀ t T' : State) (L : List Loc) (E : String) (ce : Cell), st₀.heap = H ∧ Stand p l e R s m args below meth c T' (locs ++ L) (cells + mc) (slots + ms) ∧ (∀ z ∈ L, free z.base) ∧ T'.heap = t.heap ∧ T'.vm = t.vm ∧ XC E st₀ t ∧ t.heap[q]? = some ce ∧ ce.vm = .none ∧ s.vm.findClass E = some ce.cls ∧
      Steps p.tables e below (T.setTop g) ((T'.setTop { g with stack := rest }).pushFrame (.throwing q)))
def vx_X {S : Type} (px : S → Prop) (B : String → S → State → Prop) (A : Nat → Prop) : String → State → State → Prop := fun E st t => ∃ u : S, px u ∧ B E u t ∧ va_F A st t
section Runs
variable {p : Program} {l : Launch} {e : Env} {R : Room} {s : State} {m : MethodId} {args : Array Value} {below : List Frame} {meth : Method} {c : Code} {H : Heap} {locs : List Loc} {cells slots : Nat}
variable {y : MethodName} {bytes cc : ByteArray} {maxL nL mc ms n index : Nat} {ret : Option FieldType} {ws : List Cond} {rm : Room} {Pc : Array Value → State → Prop} {Qc : Array Value → State → Outcome → State → Prop} {XC : String → State → State → Prop} {free : Addr → Prop} {Ts : List Cond} {own C : String} {b : Addr} {As rest : List Value} {g : JFrame}
theorem vx_callBack (cb : CallB R s args own index y bytes maxL ret ws rm mc ms n) (hM : vx_Met l y ws rm Pc Qc XC mc ms free) (hbl : FrameBlind Pc) : vx_Back l R p e below s args y 3 8 (PreOf R mc ms Pc) (PostOf Qc mc ms free) (vx_Post XC mc ms free) := by
  obtain ⟨hrc, hrs, hfr, hlo, hws, hcw, -, hini, -⟩ := cb
  exact vx_back (bytes := bytes) (maxL := maxL) (ret := ret) hM hbl hrc hrs hfr hlo hws hcw (fun a' U hW => word_at hW (Or.inl (by first | rfl | simp [Cond.onTables, Cond.keeps, Cond.steady])) hini)
theorem vx_runV (S : CallFix p m c cc nL s args Ts own) (hM : vx_Met l y ws rm Pc Qc XC mc ms free) (cw : CallW R s args own C index y bytes maxL ret ws rm mc ms n) (hp : PreV s H C b Pc As)
    (hg : g.method = m) (hn : As.length = n) (hsize : g.locals.size = nL) (hstack : g.stack = As.reverse ++ .ref b :: rest) (hW : 2 * g.monitorRoom + (rest.map fun v => v.category).sum ≤ 8) (hdg : decode cc g.pc = .ok (.invokevirtual index, 3)) (hf : cells + mc ≤ R.cells ∧ slots + ms ≤ R.slots) :
    vx_Run p l e R s m args below meth c H locs cells slots mc ms g rest (Qc (Value.ref b :: As).toArray) XC free := by
  have hK : vx_Back l R p e below s args y 3 8 (PreOf R mc ms Pc) (PostOf Qc mc ms free) (vx_Post XC mc ms free) := vx_callBack cw.1 hM hp.1
  obtain ⟨⟨-, -, -, -, -, -, hcode, -, hy, hlen, hl⟩, hin, hse⟩ := cw
  obtain ⟨hx, hb, hml, ho, -⟩ := S
  obtain ⟨-, ⟨cellB, hcB, hoB, hclB⟩, hPc⟩ := hp
  intro T hT X
  rcases vx_callV X hx (C := C) (bytes := bytes) (maxL := maxL) (ret := ret) ho hl hin hse hcode hy hK (by rw [hT]; exact hcB) hoB hclB hg (hsize.trans hml.symm) (argsL := As) (rest := rest) (fun sig h => hn.trans (hlen sig h)) hstack hW (by rw [hb]; exact hdg)
    (fun vm₁ hW₁ => ⟨hf.1, hf.2, hPc (T.setVm vm₁) hT hW₁⟩) with ⟨v, vm₁, ⟨U', l2, c2, s2⟩, hW₁, X', ⟨g', mk, t, L, e1, e2, hq, h1, hL, h2, h3⟩, st⟩ | ⟨q, vm₁, ⟨U', l2, c2, s2⟩, hW₁, X', ⟨g', mk, t, L, E, ce, e1, e2, hq, hce, hcv, hcl, h1, hL, h2, h3⟩, st⟩
  · dsimp only [Pt.U, Pt.locs, Pt.cells, Pt.slots] at X' e1 e2 h1 h2 h3 st
    subst h1; subst h2; subst h3
    exact Or.inl ⟨v, (T.setVm vm₁).calling g' mk (Value.ref b :: As).toArray, t, U', L, hT, X', hL, e1, e2, hq, st⟩
  · dsimp only [Pt.U, Pt.locs, Pt.cells, Pt.slots] at X' e1 e2 h1 h2 h3 st hcl
    subst h1; subst h2; subst h3
    exact Or.inr ⟨q, (T.setVm vm₁).calling g' mk (Value.ref b :: As).toArray, t, U', L, E, ce, hT, X', hL, e1, e2, hq, hce, hcv, vx_cls hW₁ hcl, st⟩
theorem vx_runS (S : CallFix p m c cc nL s args Ts own) (hM : vx_Met l y ws rm Pc Qc XC mc ms free) (cw : CallB R s args own index y bytes maxL ret ws rm mc ms n ∧ (Cond.static y).before args s = true) (hp : PreS s H Pc As)
    (hg : g.method = m) (hn : As.length = n) (hsize : g.locals.size = nL) (hstack : g.stack = As.reverse ++ rest) (hW : 2 * g.monitorRoom + (rest.map fun v => v.category).sum ≤ 8) (hdg : decode cc g.pc = .ok (.invokestatic index, 3)) (hf : cells + mc ≤ R.cells ∧ slots + ms ≤ R.slots) :
    vx_Run p l e R s m args below meth c H locs cells slots mc ms g rest (Qc As.toArray) XC free := by
  have hK : vx_Back l R p e below s args y 3 8 (PreOf R mc ms Pc) (PostOf Qc mc ms free) (vx_Post XC mc ms free) := vx_callBack cw.1 hM hp.1
  obtain ⟨⟨-, -, -, -, -, -, hcode, hini, hy, hlen, hl⟩, hstt⟩ := cw
  obtain ⟨hx, hb, hml, ho, -⟩ := S
  intro T hT X
  rcases vx_callS X hx (bytes := bytes) (maxL := maxL) (ret := ret) ho hl hstt hini hcode hy hK hg (hsize.trans hml.symm) (argsL := As) (rest := rest) (fun sig h => hn.trans (hlen sig h)) hstack hW (by rw [hb]; exact hdg)
    (fun vm₁ hW₁ => ⟨hf.1, hf.2, hp.2 (T.setVm vm₁) hT hW₁⟩) with ⟨v, vm₁, ⟨U', l2, c2, s2⟩, hW₁, X', ⟨g', mk, t, L, e1, e2, hq, h1, hL, h2, h3⟩, st⟩ | ⟨q, vm₁, ⟨U', l2, c2, s2⟩, hW₁, X', ⟨g', mk, t, L, E, ce, e1, e2, hq, hce, hcv, hcl, h1, hL, h2, h3⟩, st⟩
  · dsimp only [Pt.U, Pt.locs, Pt.cells, Pt.slots] at X' e1 e2 h1 h2 h3 st
    subst h1; subst h2; subst h3
    exact Or.inl ⟨v, (T.setVm vm₁).calling g' mk As.toArray, t, U', L, hT, X', hL, e1, e2, hq, st⟩
  · dsimp only [Pt.U, Pt.locs, Pt.cells, Pt.slots] at X' e1 e2 h1 h2 h3 st hcl
    subst h1; subst h2; subst h3
    exact Or.inr ⟨q, (T.setVm vm₁).calling g' mk As.toArray, t, U', L, E, ce, hT, X', hL, e1, e2, hq, hce, hcv, vx_cls hW₁ hcl, st⟩
end Runs
section Rows
variable {p : Program} {l : Launch} {e : Env} {R : Room} {s : State} {m : MethodId} {args : Array Value} {below : List Frame} {meth : Method} {c : Code} {H : Heap} {locs : List Loc} {cells slots : Nat} {Q : State → Prop}
variable {mc ms : Nat} {free : Addr → Prop} {A0 A1 : Nat → Prop} {H0 : Heap} {a : Array Value} {pc : Nat} {ls : Array Slot} {st0 rest : List Value}
theorem vx_keep {st₀ t T' : State} {L : List Loc} (h0 : st₀.heap = H) (e1 : T'.heap = t.heap) (hS : va_S A0 H0 H locs) (hA : ∀ q, q < H.size → A1 q → A0 q) (hf : ∀ q, free q → A0 q) (hL : ∀ q ∈ L, free q.base) (hF : va_F A1 st₀ t) :
    H.size ≤ T'.heap.size ∧ (∀ q : Nat, q < H.size → ¬ A1 q → T'.heap[q]? = H[q]?) ∧ va_S A0 H0 T'.heap (locs ++ L) := by
  obtain ⟨hz, hk⟩ := hF
  rw [h0] at hz hk
  exact ⟨by rw [e1]; exact hz, fun q h1 h2 => by rw [e1]; exact hk q h1 h2,
    ⟨Nat.le_trans hS.1 (by rw [e1]; exact hz), fun q h1 h2 => by rw [e1, hk q (Nat.lt_of_lt_of_le h1 hS.1) (fun z => h2 (hA q (Nat.lt_of_lt_of_le h1 hS.1) z))]; exact hS.2.1 q h1 h2, fun q hq => by
      rcases List.mem_append.mp hq with h | h
      · exact hS.2.2 q h
      · exact hf _ (hL q h)⟩⟩
theorem vx_calli {S SX : Type} {post : Int32 → S → Prop} {px : SX → Prop} {B : S → State → Prop} {BX : String → SX → State → Prop} {AX : Nat → Prop} (hr : vx_Run p l e R s m args below meth c H locs cells slots mc ms (F0 m pc ls st0) rest (va_Qi post B A1 a) (vx_X px BX AX) free) (hS : va_S A0 H0 H locs) (hA : ∀ q, q < H.size → A1 q → A0 q) (hf : ∀ q, free q → A0 q) (hAX : ∀ q, q < H.size → AX q → A0 q)
    (kx : ∀ (E : String) (ce : Cell) (q9 : Addr) (u : SX) (t : State) (H1 : Heap) (locs1 : List Loc), t.heap = H1 → s.vm.Alike t.vm → px u → BX E u t → H.size ≤ H1.size → (∀ q : Nat, q < H.size → ¬ AX q → H1[q]? = H[q]?) → va_S A0 H0 H1 locs1 → H1[q9]? = some ce → ce.vm = .none → s.vm.findClass E = some ce.cls → vx_W p l e R s m args below meth c H1 locs1 (cells + mc) (slots + ms) Q (F0 m pc ls rest) q9)
    (kk : ∀ (r : Int32) (u : S) (t : State) (H1 : Heap) (locs1 : List Loc), t.heap = H1 → s.vm.Alike t.vm → post r u → B u t → H.size ≤ H1.size → (∀ q : Nat, q < H.size → ¬ A1 q → H1[q]? = H[q]?) → va_S A0 H0 H1 locs1 → W p l e R s m args below meth c H1 locs1 (cells + mc) (slots + ms) Q (F0 m (pc + 3) ls (.int r :: rest))) : W p l e R s m args below meth c H locs cells slots Q (F0 m pc ls st0) := by
  intro T hT X
  rcases hr T hT X with ⟨v, st₀, t, T', L, h0, X', hL, e1, e2, ⟨⟨r, u, hv, hp, hb⟩, hF⟩, st⟩ | ⟨q, st₀, t, T', L, E, ce, h0, X', hL, e1, e2, ⟨u, hp, hb, hF⟩, hce, hcv, hcl, st⟩
  · cases hv
    obtain ⟨k1, k2, k3⟩ := vx_keep h0 e1 hS hA hf hL hF
    obtain ⟨t2, a1, b1⟩ := kk r u t T'.heap (locs ++ L) e1.symm (by rw [← e2]; exact X'.warmed.alike) hp hb k1 k2 k3 T' rfl X'
    exact ⟨t2, st t2 a1, b1⟩
  · obtain ⟨k1, k2, k3⟩ := vx_keep h0 e1 hS hAX hf hL hF
    obtain ⟨t2, a1, b1⟩ := kx E ce q u t T'.heap (locs ++ L) e1.symm (by rw [← e2]; exact X'.warmed.alike) hp hb k1 k2 k3 (by rw [e1]; exact hce) hcv hcl T' rfl X'
    exact ⟨t2, st.trans a1, b1⟩
theorem vx_calll {S SX : Type} {post : Int64 → S → Prop} {px : SX → Prop} {B : S → State → Prop} {BX : String → SX → State → Prop} {AX : Nat → Prop} (hr : vx_Run p l e R s m args below meth c H locs cells slots mc ms (F0 m pc ls st0) rest (va_Ql post B A1 a) (vx_X px BX AX) free) (hS : va_S A0 H0 H locs) (hA : ∀ q, q < H.size → A1 q → A0 q) (hf : ∀ q, free q → A0 q) (hAX : ∀ q, q < H.size → AX q → A0 q)
    (kx : ∀ (E : String) (ce : Cell) (q9 : Addr) (u : SX) (t : State) (H1 : Heap) (locs1 : List Loc), t.heap = H1 → s.vm.Alike t.vm → px u → BX E u t → H.size ≤ H1.size → (∀ q : Nat, q < H.size → ¬ AX q → H1[q]? = H[q]?) → va_S A0 H0 H1 locs1 → H1[q9]? = some ce → ce.vm = .none → s.vm.findClass E = some ce.cls → vx_W p l e R s m args below meth c H1 locs1 (cells + mc) (slots + ms) Q (F0 m pc ls rest) q9)
    (kk : ∀ (r : Int64) (u : S) (t : State) (H1 : Heap) (locs1 : List Loc), t.heap = H1 → s.vm.Alike t.vm → post r u → B u t → H.size ≤ H1.size → (∀ q : Nat, q < H.size → ¬ A1 q → H1[q]? = H[q]?) → va_S A0 H0 H1 locs1 → W p l e R s m args below meth c H1 locs1 (cells + mc) (slots + ms) Q (F0 m (pc + 3) ls (.long r :: rest))) : W p l e R s m args below meth c H locs cells slots Q (F0 m pc ls st0) := by
  intro T hT X
  rcases hr T hT X with ⟨v, st₀, t, T', L, h0, X', hL, e1, e2, ⟨⟨r, u, hv, hp, hb⟩, hF⟩, st⟩ | ⟨q, st₀, t, T', L, E, ce, h0, X', hL, e1, e2, ⟨u, hp, hb, hF⟩, hce, hcv, hcl, st⟩
  · cases hv
    obtain ⟨k1, k2, k3⟩ := vx_keep h0 e1 hS hA hf hL hF
    obtain ⟨t2, a1, b1⟩ := kk r u t T'.heap (locs ++ L) e1.symm (by rw [← e2]; exact X'.warmed.alike) hp hb k1 k2 k3 T' rfl X'
    exact ⟨t2, st t2 a1, b1⟩
  · obtain ⟨k1, k2, k3⟩ := vx_keep h0 e1 hS hAX hf hL hF
    obtain ⟨t2, a1, b1⟩ := kx E ce q u t T'.heap (locs ++ L) e1.symm (by rw [← e2]; exact X'.warmed.alike) hp hb k1 k2 k3 (by rw [e1]; exact hce) hcv hcl T' rfl X'
    exact ⟨t2, st.trans a1, b1⟩
theorem vx_callf {S SX : Type} {post : UInt32 → S → Prop} {px : SX → Prop} {B : S → State → Prop} {BX : String → SX → State → Prop} {AX : Nat → Prop} (hr : vx_Run p l e R s m args below meth c H locs cells slots mc ms (F0 m pc ls st0) rest (va_Qf post B A1 a) (vx_X px BX AX) free) (hS : va_S A0 H0 H locs) (hA : ∀ q, q < H.size → A1 q → A0 q) (hf : ∀ q, free q → A0 q) (hAX : ∀ q, q < H.size → AX q → A0 q)
    (kx : ∀ (E : String) (ce : Cell) (q9 : Addr) (u : SX) (t : State) (H1 : Heap) (locs1 : List Loc), t.heap = H1 → s.vm.Alike t.vm → px u → BX E u t → H.size ≤ H1.size → (∀ q : Nat, q < H.size → ¬ AX q → H1[q]? = H[q]?) → va_S A0 H0 H1 locs1 → H1[q9]? = some ce → ce.vm = .none → s.vm.findClass E = some ce.cls → vx_W p l e R s m args below meth c H1 locs1 (cells + mc) (slots + ms) Q (F0 m pc ls rest) q9)
    (kk : ∀ (r : UInt32) (u : S) (t : State) (H1 : Heap) (locs1 : List Loc), t.heap = H1 → s.vm.Alike t.vm → post r u → B u t → H.size ≤ H1.size → (∀ q : Nat, q < H.size → ¬ A1 q → H1[q]? = H[q]?) → va_S A0 H0 H1 locs1 → W p l e R s m args below meth c H1 locs1 (cells + mc) (slots + ms) Q (F0 m (pc + 3) ls (.float r :: rest))) : W p l e R s m args below meth c H locs cells slots Q (F0 m pc ls st0) := by
  intro T hT X
  rcases hr T hT X with ⟨v, st₀, t, T', L, h0, X', hL, e1, e2, ⟨⟨r, u, hv, hp, hb⟩, hF⟩, st⟩ | ⟨q, st₀, t, T', L, E, ce, h0, X', hL, e1, e2, ⟨u, hp, hb, hF⟩, hce, hcv, hcl, st⟩
  · cases hv
    obtain ⟨k1, k2, k3⟩ := vx_keep h0 e1 hS hA hf hL hF
    obtain ⟨t2, a1, b1⟩ := kk r u t T'.heap (locs ++ L) e1.symm (by rw [← e2]; exact X'.warmed.alike) hp hb k1 k2 k3 T' rfl X'
    exact ⟨t2, st t2 a1, b1⟩
  · obtain ⟨k1, k2, k3⟩ := vx_keep h0 e1 hS hAX hf hL hF
    obtain ⟨t2, a1, b1⟩ := kx E ce q u t T'.heap (locs ++ L) e1.symm (by rw [← e2]; exact X'.warmed.alike) hp hb k1 k2 k3 (by rw [e1]; exact hce) hcv hcl T' rfl X'
    exact ⟨t2, st.trans a1, b1⟩
theorem vx_calld {S SX : Type} {post : UInt64 → S → Prop} {px : SX → Prop} {B : S → State → Prop} {BX : String → SX → State → Prop} {AX : Nat → Prop} (hr : vx_Run p l e R s m args below meth c H locs cells slots mc ms (F0 m pc ls st0) rest (va_Qd post B A1 a) (vx_X px BX AX) free) (hS : va_S A0 H0 H locs) (hA : ∀ q, q < H.size → A1 q → A0 q) (hf : ∀ q, free q → A0 q) (hAX : ∀ q, q < H.size → AX q → A0 q)
    (kx : ∀ (E : String) (ce : Cell) (q9 : Addr) (u : SX) (t : State) (H1 : Heap) (locs1 : List Loc), t.heap = H1 → s.vm.Alike t.vm → px u → BX E u t → H.size ≤ H1.size → (∀ q : Nat, q < H.size → ¬ AX q → H1[q]? = H[q]?) → va_S A0 H0 H1 locs1 → H1[q9]? = some ce → ce.vm = .none → s.vm.findClass E = some ce.cls → vx_W p l e R s m args below meth c H1 locs1 (cells + mc) (slots + ms) Q (F0 m pc ls rest) q9)
    (kk : ∀ (r : UInt64) (u : S) (t : State) (H1 : Heap) (locs1 : List Loc), t.heap = H1 → s.vm.Alike t.vm → post r u → B u t → H.size ≤ H1.size → (∀ q : Nat, q < H.size → ¬ A1 q → H1[q]? = H[q]?) → va_S A0 H0 H1 locs1 → W p l e R s m args below meth c H1 locs1 (cells + mc) (slots + ms) Q (F0 m (pc + 3) ls (.double r :: rest))) : W p l e R s m args below meth c H locs cells slots Q (F0 m pc ls st0) := by
  intro T hT X
  rcases hr T hT X with ⟨v, st₀, t, T', L, h0, X', hL, e1, e2, ⟨⟨r, u, hv, hp, hb⟩, hF⟩, st⟩ | ⟨q, st₀, t, T', L, E, ce, h0, X', hL, e1, e2, ⟨u, hp, hb, hF⟩, hce, hcv, hcl, st⟩
  · cases hv
    obtain ⟨k1, k2, k3⟩ := vx_keep h0 e1 hS hA hf hL hF
    obtain ⟨t2, a1, b1⟩ := kk r u t T'.heap (locs ++ L) e1.symm (by rw [← e2]; exact X'.warmed.alike) hp hb k1 k2 k3 T' rfl X'
    exact ⟨t2, st t2 a1, b1⟩
  · obtain ⟨k1, k2, k3⟩ := vx_keep h0 e1 hS hAX hf hL hF
    obtain ⟨t2, a1, b1⟩ := kx E ce q u t T'.heap (locs ++ L) e1.symm (by rw [← e2]; exact X'.warmed.alike) hp hb k1 k2 k3 (by rw [e1]; exact hce) hcv hcl T' rfl X'
    exact ⟨t2, st.trans a1, b1⟩
theorem vx_callv {S SX : Type} {post : S → Prop} {px : SX → Prop} {B : S → State → Prop} {BX : String → SX → State → Prop} {AX : Nat → Prop} (hr : vx_Run p l e R s m args below meth c H locs cells slots mc ms (F0 m pc ls st0) rest (va_Qv post B A1 a) (vx_X px BX AX) free) (hS : va_S A0 H0 H locs) (hA : ∀ q, q < H.size → A1 q → A0 q) (hf : ∀ q, free q → A0 q) (hAX : ∀ q, q < H.size → AX q → A0 q)
    (kx : ∀ (E : String) (ce : Cell) (q9 : Addr) (u : SX) (t : State) (H1 : Heap) (locs1 : List Loc), t.heap = H1 → s.vm.Alike t.vm → px u → BX E u t → H.size ≤ H1.size → (∀ q : Nat, q < H.size → ¬ AX q → H1[q]? = H[q]?) → va_S A0 H0 H1 locs1 → H1[q9]? = some ce → ce.vm = .none → s.vm.findClass E = some ce.cls → vx_W p l e R s m args below meth c H1 locs1 (cells + mc) (slots + ms) Q (F0 m pc ls rest) q9)
    (kk : ∀ (u : S) (t : State) (H1 : Heap) (locs1 : List Loc), t.heap = H1 → s.vm.Alike t.vm → post u → B u t → H.size ≤ H1.size → (∀ q : Nat, q < H.size → ¬ A1 q → H1[q]? = H[q]?) → va_S A0 H0 H1 locs1 → W p l e R s m args below meth c H1 locs1 (cells + mc) (slots + ms) Q (F0 m (pc + 3) ls (rest))) : W p l e R s m args below meth c H locs cells slots Q (F0 m pc ls st0) := by
  intro T hT X
  rcases hr T hT X with ⟨v, st₀, t, T', L, h0, X', hL, e1, e2, ⟨⟨u, hv, hp, hb⟩, hF⟩, st⟩ | ⟨q, st₀, t, T', L, E, ce, h0, X', hL, e1, e2, ⟨u, hp, hb, hF⟩, hce, hcv, hcl, st⟩
  · cases hv
    obtain ⟨k1, k2, k3⟩ := vx_keep h0 e1 hS hA hf hL hF
    obtain ⟨t2, a1, b1⟩ := kk u t T'.heap (locs ++ L) e1.symm (by rw [← e2]; exact X'.warmed.alike) hp hb k1 k2 k3 T' rfl X'
    exact ⟨t2, st t2 a1, b1⟩
  · obtain ⟨k1, k2, k3⟩ := vx_keep h0 e1 hS hAX hf hL hF
    obtain ⟨t2, a1, b1⟩ := kx E ce q u t T'.heap (locs ++ L) e1.symm (by rw [← e2]; exact X'.warmed.alike) hp hb k1 k2 k3 (by rw [e1]; exact hce) hcv hcl T' rfl X'
    exact ⟨t2, st.trans a1, b1⟩
/-- caught by the row x of this method's table; the rows ahead don't take it -/
theorem vx_catch {own name : String} {E : String} {ce : Cell} {q : Addr} (hown : s.vm.findClass own = some m.cls) (pre : List ExceptionTableEntry) (x : ExceptionTableEntry) (suf : List ExceptionTableEntry) (hsplit : c.exceptionTable.toList = pre ++ x :: suf)
    (hpass : ∀ z ∈ pre, covers z pc = false ∨ (z.catchType ≠ 0 ∧ ∃ nm : String, (Cond.classLink own z.catchType nm).before args s = true ∧ va_Nc E nm s)) (hx : covers x pc = true) (h0 : x.catchType ≠ 0)
    (hlink : (Cond.classLink own x.catchType name).before args s = true) (hcast : (Cond.castable E name).before args s = true) (hcell : H[q]? = some ce) (hv : ce.vm = .none) (hcl : s.vm.findClass E = some ce.cls)
    (kk : W p l e R s m args below meth c H locs cells slots Q (F0 m x.handlerPc ls [.ref q])) : vx_W p l e R s m args below meth c H locs cells slots Q (F0 m pc ls rest) q := by
  intro T hT X
  have hpl : e.platform.magicAccessors = ({} : Platform).magicAccessors := by rw [X.admits.platform]
  obtain ⟨c3, c4, hc3, hc4, hasg⟩ := Cond.castable_spec hcast
  cases Option.some.inj (hc3.symm.trans hcl)
  obtain ⟨c5, hc5, hcl5⟩ := Cond.classLink_spec hown hlink e.platform hpl
  cases Option.some.inj (hc4.symm.trans hc5)
  obtain ⟨vm', X', st⟩ := Stand.thenCaughtThrough X q (g := F0 m pc ls rest) rfl (Steps.refl _) (by rw [hT]; exact hcell) (by rw [hv]; rfl) (by obtain ⟨k9, h9, -⟩ := Vm.findClass_spec hcl; exact ⟨k9, h9⟩) pre x suf hsplit
    (fun z hz => by
      rcases hpass z hz with h | ⟨hz0, nm, hl1, hn1⟩
      · exact Or.inl h
      · obtain ⟨c6, hc6, hcl6⟩ := Cond.classLink_spec hown hl1 e.platform hpl
        obtain ⟨a8, b8, h1, h2, h3⟩ := hn1
        cases Option.some.inj (h1.symm.trans hcl)
        cases Option.some.inj (h2.symm.trans hc6)
        exact Or.inr ⟨hz0, _, hcl6, h3⟩) hx (Or.inr ⟨h0, c4, hcl5, hasg⟩)
  obtain ⟨t, a1, b1⟩ := kk (T.setVm vm') hT X'
  exact ⟨t, st.trans a1, b1⟩
end Rows
section Ends
variable {p : Program} {l : Launch} {e : Env} {R : Room} {s : State} {m : MethodId} {args : Array Value} {below : List Frame} {meth : Method} {c : Code} {H : Heap} {locs : List Loc} {cells slots : Nat} {Q : State → Prop}
variable {mc ms : Nat} {free : Addr → Prop} {A0 A1 : Nat → Prop} {H0 : Heap} {a : Array Value} {ls : Array Slot} {st0 rest : List Value}
variable {Qc : Array Value → State → Outcome → State → Prop} {XC : String → State → State → Prop}
/-- what a body that may throw owes at its end -/
def vx_MQ (below : List Frame) (Qc : Array Value → State → Outcome → State → Prop) (XC : String → State → State → Prop) (a : Array Value) (s : State) (mc ms : Nat) (free : Addr → Prop) : State → Prop := fun t =>
  ∃ o, t.status = .running ∧ Ended t below o ∧ vx_Q Qc XC mc ms free a s o t
theorem vx_ret {g : JFrame} {mc ms : Nat} (k : W p l e R s m args below meth c H locs cells slots (MQ below Qc args s mc ms free) g) : W p l e R s m args below meth c H locs cells slots (vx_MQ below Qc XC args s mc ms free) g := by
  intro T hT X
  obtain ⟨t, a1, o, b1, b2, b3, b4⟩ := k T hT X
  exact ⟨t, a1, o, b1, b2, Or.inl ⟨b3, b4⟩⟩
/-- not caught here: it goes on to the caller -/
theorem vx_widen {g : JFrame} {q : Addr} {k n : Nat} (h1 : cells ≤ k) (h2 : slots ≤ n) (kk : vx_W p l e R s m args below meth c H locs k n Q g q) : vx_W p l e R s m args below meth c H locs cells slots Q g q := fun T hT X => kk T hT (stand_widen X h1 h2)
theorem vx_out {pc : Nat} {E : String} {ce : Cell} {q : Addr} {mc ms : Nat} (hout : ∀ x ∈ c.exceptionTable.toList, covers x pc = false) (hlocks : meth.locks = false) (hcell : H[q]? = some ce) (hv : ce.vm = .none) (hcl : s.vm.findClass E = some ce.cls)
    (hx : ∀ t : State, t.heap = H → s.vm.Alike t.vm → XC E s t) (hf : ∀ z ∈ locs, free z.base) (hc : cells ≤ mc) (hs : slots ≤ ms) :
    vx_W p l e R s m args below meth c H locs cells slots (vx_MQ below Qc XC args s mc ms free) (F0 m pc ls rest) q := by
  intro T hT X
  obtain ⟨st1, hrun, hend, hW, hsm⟩ := X.leaveThrown q (g := F0 m pc ls rest) rfl rfl rfl hout hlocks
  have hcell9 : (T.setFrames (.throwing q :: below)).heap[q]? = some ce := by
    show T.heap[q]? = some ce
    rw [hT]; exact hcell
  exact ⟨_, st1, .threw q, hrun, hend, Or.inr ⟨q, rfl, E, ce, locs, hx _ hT hW.alike, hcell9, hv, hcl, hW, hsm.mono hc hs, hf⟩⟩
theorem vx_frame {U : State} {k n : Nat} (h : s.sameButNew ({ U with vm := s.vm } : State) locs k n) : s.heap.size ≤ U.heap.size ∧ ∀ q : Nat, q < s.heap.size → (∀ z ∈ locs, z.base ≠ q) → U.heap[q]? = s.heap[q]? := by
  obtain ⟨-, h2, -, -, -, h6⟩ := h
  refine ⟨h2, fun q hq hz => ?_⟩
  obtain ⟨c9, e1, e2, e3, e4⟩ := h6 q _ (Array.getElem?_eq_getElem hq)
  have hs : c9.slots = (s.heap[q]).slots := Array.ext_getElem? fun i => e4 i fun hm => hz _ hm rfl
  have h9 : c9 = s.heap[q] := by
    rw [hs] at e2
    exact e2
  have e5 : U.heap[q]? = some c9 := e1
  rw [e5, h9, Array.getElem?_eq_getElem hq]
/-- the words of a throw but the four that speak of the heap -/
def vx_no (w : Cond) : Bool := decide (w ≠ .isRef (.static Bundle.tN "UNASSIGNED_STACK" Bundle.steD)) && decide (w ≠ .isRef (.static Bundle.tN "SUPPRESSED_SENTINEL" Bundle.listD)) && decide (w ≠ .laysStatic Bundle.tN "UNASSIGNED_STACK" Bundle.steD) && decide (w ≠ .laysStatic Bundle.tN "SUPPRESSED_SENTINEL" Bundle.listD)
def vx_at0 (own : String) (ic : Nat) (X : String) (names : List String) : List Cond := (Bundle.ownAtoms0 own ic X names).filter vx_no
def vx_atS (own : String) (ic : Nat) (X : String) (names : List String) : List Cond := (Bundle.ownAtoms own ic X names).filter vx_no
/-- a word that the tables alone decide, or a good one -/
def vx_ot (w : Cond) : Bool := w.onTables || goodWord w
theorem vx_ot_at {args a' : Array Value} {s U : State} {w : Cond} (hW : s.WarmedH U.vm) (hvm : s.vm = U.vm) (hg : vx_ot w = true) (h : w.before args s = true) : w.before a' U = true := by
  simp only [vx_ot, Bool.or_eq_true] at hg
  rcases hg with hg | hg
  · exact va_tabs hg hvm h
  · exact word_at hW (good_of_word hg) h
/-- a list's words: the good ones out of the method's own list, the others by premises of their own -/
theorem vx_hat {args : Array Value} {s : State} {L B : List Cond} (h1 : ∀ w ∈ L.filter goodWord, w.before args s = true) (h2 : ∀ w ∈ L.filter (fun w => !goodWord w), w ∈ B) (h3 : ∀ w ∈ B, w.before args s = true) : ∀ w ∈ L, w.before args s = true := by
  intro w hw
  by_cases g : goodWord w = true
  · exact h1 w (List.mem_filter.mpr ⟨hw, g⟩)
  · refine h3 w (h2 w (List.mem_filter.mpr ⟨hw, ?_⟩))
    show (!goodWord w) = true
    cases hgw : goodWord w
    · rfl
    · exact absurd hgw g
theorem vx_c {args : Array Value} {s : State} {w : Cond} {B : List Cond} (h : w.before args s = true) (t : ∀ w ∈ B, w.before args s = true) : ∀ w' ∈ w :: B, w'.before args s = true := fun w' h' => (List.mem_cons.mp h').elim (fun e => by rw [e]; exact h) (t w')
theorem vx_n {args : Array Value} {s : State} : ∀ w ∈ ([] : List Cond), w.before args s = true := fun _ h => nomatch h
theorem vx_own {args : Array Value} {s : State} {L : List Cond} (h1 : ∀ w ∈ L.filter vx_no, w.before args s = true)
    (hU : (Cond.isRef (.static Bundle.tN "UNASSIGNED_STACK" Bundle.steD)).before args s = true) (hN : (Cond.isRef (.static Bundle.tN "SUPPRESSED_SENTINEL" Bundle.listD)).before args s = true)
    (lU : (Cond.laysStatic Bundle.tN "UNASSIGNED_STACK" Bundle.steD).before args s = true) (lN : (Cond.laysStatic Bundle.tN "SUPPRESSED_SENTINEL" Bundle.listD).before args s = true) : ∀ w ∈ L, w.before args s = true := by
  intro w hw
  by_cases e1 : w = .isRef (.static Bundle.tN "UNASSIGNED_STACK" Bundle.steD)
  · rw [e1]; exact hU
  · by_cases e2 : w = .isRef (.static Bundle.tN "SUPPRESSED_SENTINEL" Bundle.listD)
    · rw [e2]; exact hN
    · by_cases e3 : w = .laysStatic Bundle.tN "UNASSIGNED_STACK" Bundle.steD
      · rw [e3]; exact lU
      · by_cases e4 : w = .laysStatic Bundle.tN "SUPPRESSED_SENTINEL" Bundle.listD
        · rw [e4]; exact lN
        · exact h1 w (List.mem_filter.mpr ⟨hw, by unfold vx_no; rw [decide_eq_true e1, decide_eq_true e2, decide_eq_true e3, decide_eq_true e4]; rfl⟩)
/-- where a static field lies, its class's statics cell in H -/
def vx_L (C n d : String) (A : Nat → Prop) (U : State) (H : Heap) : Prop := ∃ (c : ClassId) (k : Class) (i : Nat) (f : Field) (a : Nat) (cell : Cell), U.vm.findClass C = some c ∧ U.fieldFound? C n d = some (c, k, i, f) ∧ f.isStatic = true ∧ k.statics = some a ∧ H[a]? = some cell ∧ cell.vm.isStatics = true ∧ cell.cls = c ∧ f.slot < cell.slots.size ∧ k.staticTypes[f.slot]? = some f.type ∧ ¬ A a
theorem vx_L.moved {C n d : String} {A : Nat → Prop} {u U : State} {H : Heap} (hvm : u.vm.Alike U.vm) (h : vx_L C n d A u H) : vx_L C n d A U H := by
  obtain ⟨c, k, i, f, a, cell, h1, h2, h3, h4, h5, h6, h7, h8, h9, h10⟩ := h
  obtain ⟨k', hi', he⟩ := State.fieldFound?_setVm hvm h2
  exact ⟨c, k', i, f, a, cell, by rw [hvm.findClass]; exact h1, hi', h3, by rw [he]; exact h4, h5, h6, h7, h8, by rw [he]; exact h9, h10⟩
theorem vx_L.kept {C n d : String} {A : Nat → Prop} {U : State} {H H1 : Heap} (h : vx_L C n d A U H) (hq : ∀ a : Nat, a < H.size → ¬ A a → H1[a]? = H[a]?) : vx_L C n d A U H1 := by
  obtain ⟨c, k, i, f, a, cell, h1, h2, h3, h4, h5, h6, h7, h8, h9, h10⟩ := h
  exact ⟨c, k, i, f, a, cell, h1, h2, h3, h4, by rw [hq a (Array.getElem?_eq_some_iff.mp h5).1 h10]; exact h5, h6, h7, h8, h9, h10⟩
theorem vx_L.narrow {C n d : String} {A B : Nat → Prop} {U : State} {H : Heap} (h : vx_L C n d A U H) (hAB : ∀ q, B q → A q) : vx_L C n d B U H := by
  obtain ⟨c, k, i, f, a, cell, h1, h2, h3, h4, h5, h6, h7, h8, h9, h10⟩ := h
  exact ⟨c, k, i, f, a, cell, h1, h2, h3, h4, h5, h6, h7, h8, h9, fun z => h10 (hAB _ z)⟩
theorem vx_L.word {C n d : String} {A : Nat → Prop} {s : State} {args : Array Value} (h : vx_L C n d A s s.heap) : (Cond.laysStatic C n d).before args s = true := by
  obtain ⟨c, k, i, f, a, cell, h1, h2, h3, h4, h5, h6, h7, h8, h9, -⟩ := h
  show (Cond.laysStatic C n d).holds args s none s [] = true
  exact Cond.laysStatic_of h1 h2 h3 h4 h5 h6 h7 h8 h9
/-- .. and what it holds: null or some reference -/
def vx_Zq (C n d : String) (A : Nat → Prop) (U : State) (H : Heap) : Prop := va_Zq C n d A U H ∧ vx_L C n d A U H
theorem vx_Zq.moved {C n d : String} {A : Nat → Prop} {u U : State} {H : Heap} (hvm : u.vm.Alike U.vm) (h : vx_Zq C n d A u H) : vx_Zq C n d A U H := ⟨va_Zq.moved hvm h.1, vx_L.moved hvm h.2⟩
theorem vx_Zq.kept {C n d : String} {A : Nat → Prop} {U : State} {H H1 : Heap} (h : vx_Zq C n d A U H) (hq : ∀ a : Nat, a < H.size → ¬ A a → H1[a]? = H[a]?) : vx_Zq C n d A U H1 := ⟨va_Zq.kept h.1 hq, vx_L.kept h.2 hq⟩
theorem vx_Zq.narrow {C n d : String} {A B : Nat → Prop} {U : State} {H : Heap} (h : vx_Zq C n d A U H) (hAB : ∀ q, B q → A q) : vx_Zq C n d B U H := ⟨va_Zq.narrow h.1 hAB, vx_L.narrow h.2 hAB⟩
theorem vx_Zqof {args : Array Value} {s : State} {C n d : String} {A : Nat → Prop} (hl : (Cond.laysStatic C n d).before args s = true) (hini : (Cond.initialized C).before args s = true) (h : (Cond.isRef (.static C n d)).before args s = true) (hA : ∀ a : Nat, a < s.heap.size → ¬ A a) : vx_Zq C n d A s s.heap := by
  refine ⟨va_Zqof hl hini h hA, ?_⟩
  obtain ⟨c, k, i, f, a, cell, h1, h2, h3, h4, h5, h6, h7, h8, h9⟩ := Cond.laysStatic_spec hl
  exact ⟨c, k, i, f, a, cell, h1, h2, h3, h4, h5, h6, h7, h8, h9, hA a (Array.getElem?_eq_some_iff.mp h5).1⟩
theorem vx_isRef {C n d : String} {v : Value} {A : Nat → Prop} {s : State} {args : Array Value} (h : va_Z C n d v A s s.heap) (hv : v.isRef = true) : (Cond.isRef (.static C n d)).before args s = true := by
  obtain ⟨cf, kf, fi, f, a, cell, h1, h2, h3, h4, h5, h6, h7, -⟩ := h
  have he : (Term.static C n d).eval args s none [] s = some v := by
    simp [Term.eval, State.fieldNamed?, h1, h2, h4, h5, h6, h7]
  simp only [Cond.before, Cond.holds, Cond.value, he]
  cases v <;> simp_all [Value.isRef]
theorem vx_isRefq {C n d : String} {A : Nat → Prop} {s : State} {args : Array Value} (h : va_Zq C n d A s s.heap) : (Cond.isRef (.static C n d)).before args s = true := by
  rcases h with h | ⟨t, h⟩
  · exact vx_isRef h rfl
  · exact vx_isRef h rfl
/-- the same frame, seen from here: as if the method were called anew in this heap -/
theorem vx_rebase {T : State} (X : Stand p l e R s m args below meth c T locs cells slots) {R' : Room} (hf : R'.frames ≤ R.frames) (hl : R'.locals ≤ R.locals) (hc : cells + R'.cells ≤ R.cells) (hs : slots + R'.slots ≤ R.slots) :
    Stand p l e R' ((T.setVm s.vm).setFrames (.invoking m args :: below)) m args below meth c T [] 0 0 := by
  have htop : (T.setVm s.vm).topJava?.isSome := X.here.top
  have hF : ((T.setVm s.vm).setFrames (.invoking m args :: below)).frames = .invoking m args :: below := State.frames_setFrames _ (State.cur_lt_of_top htop)
  obtain ⟨g₀, hg0⟩ := Option.isSome_iff_exists.mp htop
  obtain ⟨r, hr⟩ := State.topJava?_eq_some.mp hg0
  have hl9 : e.platform.stackLimits (T.setVm s.vm).me = e.platform.stackLimits s.me := X.limits
  have hb9 : (T.setVm s.vm).me.stackBytes = s.me.stackBytes := X.bytes
  refine ⟨X.admits, X.cas, X.clock, hF, ?_, X.hears, X.method, X.code, X.here, X.tail, X.warmed, ?_, ?_, ?_⟩
  · have h := X.room
    have hU : ((T.setVm s.vm).setFrames (.invoking m args :: below)).localsInUse = s.localsInUse := by
      rw [State.localsInUse_invoking hF (meth := meth) (c := c) X.method X.code, State.localsInUse_invoking X.frames X.method X.code]
    simp only [State.hasRoom, Bool.and_eq_true, decide_eq_true_eq] at h ⊢
    obtain ⟨⟨⟨⟨h1, h2, h3, h4, h5, h6⟩, h7⟩, h8⟩, h9⟩ := h
    rw [X.frames, List.length_cons] at h2 h3
    have q1 := X.heapSize
    have q2 := X.used
    simp only [hF, hU, List.length_cons, State.stackLimits_setFrames, State.stackBytes_setFrames, hl9, hb9]
    refine ⟨⟨⟨⟨by omega, by omega, by omega, by omega, by omega, h6⟩, ?_⟩, ?_⟩, X.book⟩
    · show T.heap.size + R'.cells ≤ e.platform.maxCells
      omega
    · show T.slotsUsed + R'.slots ≤ e.platform.maxSlots
      omega
  · rw [State.stackLimits_setFrames]; rfl
  · rw [State.stackBytes_setFrames]; rfl
  · refine ⟨?_, Nat.le_refl _, Nat.le_refl _, ?_, ?_, fun a c9 h9 => ⟨c9, h9, rfl, rfl, fun _ _ => rfl⟩⟩
    · obtain ⟨t, ht, -⟩ := State.frames_cons hr
      show T.setVm s.vm = { ((T.setVm s.vm).setFrames (.invoking m args :: below)).setFrames (T.setVm s.vm).frames with heap := T.heap, slotsUsed := T.slotsUsed }
      rw [State.setFrames_setFrames, State.setFrames_self ht]
      rfl
    · show T.slotsUsed = T.slotsUsed + ((T.heap.toList.drop T.heap.size).map (·.slots.size)).sum
      rw [List.drop_eq_nil_of_le (Nat.le_of_eq Array.length_toList)]
      rfl
    · show ((T.heap.toList.drop T.heap.size).map (·.slots.size)).sum ≤ 0
      rw [List.drop_eq_nil_of_le (Nat.le_of_eq Array.length_toList)]
      exact Nat.le_refl _
/-- 'throw new E()': new; dup; invokespecial; athrow -/
theorem vx_throw0 {cc : ByteArray} {pc : Nat} (hexec : p.tables.exec = Jvm.exec) (hb : c.code = cc) (hl : l.stackTraces = false) {own cls : String} {names : List String} {ik ic mc ms : Nat} {A : Nat → Prop}
    (hown : s.vm.findClass own = some m.cls) (hcls : Bundle.fit cls = true) (hnames : ∀ n ∈ names, Bundle.fit n = true)
    (hk : (Cond.classLink own ik cls).before args s = true) (hini : (Cond.initialized cls).before args s = true) (hat : ∀ w ∈ vx_at0 own ic cls names, w.before args s = true)
    (hgood : ∀ w ∈ Cond.classLink own ik cls :: Cond.initialized cls :: vx_at0 own ic cls names, vx_ot w = true)
    (hU : vx_Zq Bundle.tN "UNASSIGNED_STACK" Bundle.steD A s s.heap) (hN : vx_Zq Bundle.tN "SUPPRESSED_SENTINEL" Bundle.listD A s s.heap) (hS : va_S A s.heap H locs) (hsize : ls.size = c.maxLocals)
    (d0 : decode cc pc = .ok (.new ik, 3)) (d3 : decode cc (pc + 3) = .ok (.dup, 1)) (d4 : decode cc (pc + 4) = .ok (.invokespecial ic, 3)) (d7 : decode cc (pc + 7) = .ok (.athrow, 1))
    (hout : ∀ x ∈ c.exceptionTable.toList, covers x (pc + 7) = false)
    (hRframes : names.length + 3 < R.frames) (hRlocals : (rest.map fun v => v.category).sum + (13 * (names.length + 1) + 42) ≤ R.locals) (hRcells : cells + 1 ≤ R.cells) (hRslots : slots + 6 ≤ R.slots) (hlocks : meth.locks = false)
    (hx : ∀ t : State, s.vm.Alike t.vm → H.size ≤ t.heap.size → (∀ q : Nat, q < H.size → t.heap[q]? = H[q]?) → XC cls s t)
    (hf : ∀ z ∈ locs, free z.base) (hc : cells + 1 ≤ mc) (hs : slots + 6 ≤ ms) :
    W p l e R s m args below meth c H locs cells slots (vx_MQ below Qc XC args s mc ms free) (F0 m pc ls rest) := by
  intro T hT X
  have htr : e.platform.stackTraces = false := (show e.platform.stackTraces = l.stackTraces by rw [X.admits.platform]).trans hl
  have Y := vx_rebase X (R' := { frames := R.frames, locals := R.locals, cells := 1, slots := 6 }) (Nat.le_refl _) (Nat.le_refl _) hRcells hRslots
  obtain ⟨s', hA⟩ : ∃ z, z = (T.setVm s.vm).setFrames (.invoking m args :: below) := ⟨_, rfl⟩
  rw [← hA] at Y
  have hvm : s'.vm = s.vm := by rw [hA]; rfl
  have hhp : s'.heap = H := by rw [hA]; exact hT
  have hW0 : s.WarmedH s'.vm := by rw [hvm]; exact State.WarmedH.refl s
  have hat' : ∀ w ∈ vx_at0 own ic cls names, w.before args s' = true := fun w hw => vx_ot_at hW0 hvm.symm (hgood w (List.mem_cons_of_mem _ (List.mem_cons_of_mem _ hw))) (hat w hw)
  have hk' : (Cond.classLink own ik cls).before args s' = true := vx_ot_at hW0 hvm.symm (hgood _ List.mem_cons_self) hk
  have hini' : (Cond.initialized cls).before args s' = true := vx_ot_at hW0 hvm.symm (hgood _ (List.mem_cons_of_mem _ List.mem_cons_self)) hini
  have hU' : vx_Zq Bundle.tN "UNASSIGNED_STACK" Bundle.steD A s' s'.heap := by rw [hhp]; exact vx_Zq.moved hW0.alike (hU.kept hS.2.1)
  have hN' : vx_Zq Bundle.tN "SUPPRESSED_SENTINEL" Bundle.listD A s' s'.heap := by rw [hhp]; exact vx_Zq.moved hW0.alike (hN.kept hS.2.1)
  have h : ∀ w ∈ Bundle.ownAtoms0 own ic cls names, w.before args s' = true := vx_own hat' (vx_isRefq hU'.1) (vx_isRefq hN'.1) hU'.2.word hN'.2.word
  have hown' : s'.vm.findClass own = some m.cls := by rw [hvm]; exact hown
  have hins : (Cond.instantiable cls 6).before args s' = true := h _ (by simp [Bundle.ownAtoms0])
  obtain ⟨vm₁, cX, kX, hfX, hkX, -, -, X₁, st1⟩ := Y.newCold hexec (own := own) (C := cls) (index := ik) (n := 6) hown' hk' hins hini'
    (g := F0 m pc ls rest) rfl (by rw [hb]; exact d0) (Nat.le_refl _) (Nat.le_refl _)
  generalize hT1 : (T.setVm vm₁).pushCell { cls := cX, slots := kX.instanceTypes.map defaultValue, vm := .none } = T1 at X₁ st1
  have hcat : (Value.ref T.heap.size).category = 1 := rfl
  have hcellA : T1.heap[T.heap.size]? = some (freshCell cX kX) := by rw [← hT1]; exact State.heap_pushCell_size _ _
  have d3' : decode c.code (pc + 3) = .ok (.dup, 1) := by rw [hb]; exact d3
  obtain ⟨U, hsteps, hrun, hend, hW, hsame, ce, hce, hO⟩ := X₁.ctorThrow0 hexec htr (own := own) (cls := cls) (names := names) (ic := ic) hown' hcls hnames h (fun x hx => nomatch hx) hfX hkX hcellA (by rw [hhp, hT]; exact Nat.le_refl _)
    (g := { method := m, pc := pc + 4, locals := ls, stack := .ref T.heap.size :: .ref T.heap.size :: rest, locked := none }) rfl hsize rfl rfl (rest := rest) rfl
    (by rw [hb]; exact d4) (by rw [hb]; exact d7) hout hRframes (by simp only [List.map_cons, List.sum_cons, hcat]; omega) hlocks
  obtain ⟨f1, f2⟩ := vx_frame hsame
  rw [hhp] at f1 f2
  have hWs : s.WarmedH U.vm := State.WarmedH.trans hW0 hW
  have hcl : s.vm.findClass cls = some ce.cls := by
    have h9 := hO.cls
    rw [hvm] at h9
    exact h9
  have hall : s.sameButNew ({ U with vm := s.vm } : State) locs mc ms := by
    subst hA
    obtain ⟨e1, e2⟩ := hsame
    rw [State.setFrames_setFrames] at e1
    have h2 : (T.setVm s.vm).sameButNew ({ U with vm := s.vm } : State) [] (0 + 1) (0 + 6) := ⟨e1, e2⟩
    have h3 := X.same.trans h2
    rw [List.append_nil] at h3
    exact h3.mono hc hs
  refine ⟨U, ?_, .threw T.heap.size, hrun, hend, Or.inr ⟨T.heap.size, rfl, cls, ce, locs, hx U hWs.alike f1 (fun q hq => f2 q hq (fun z hz => nomatch hz)), hce, hO.vm, hcl, hWs, hall, hf⟩⟩
  refine st1 _ ?_
  show Steps p.tables e below (T1.setTop { method := m, pc := pc + 3, locals := ls, stack := .ref T.heap.size :: rest, locked := none }) _
  jvm_step X₁.here [X₁.here.top, hexec, d3', Value.category]
  exact hsteps
/-- 'throw new E("text")': new; dup; ldc; invokespecial; athrow -/
theorem vx_throwS {cc : ByteArray} {pc : Nat} (hexec : p.tables.exec = Jvm.exec) (hb : c.code = cc) (hl : l.stackTraces = false) {own cls text : String} {names : List String} {ik is ic mc ms sa : Nat} {A : Nat → Prop}
    (hown : s.vm.findClass own = some m.cls) (hcls : Bundle.fit cls = true) (hnames : ∀ n ∈ names, Bundle.fit n = true)
    (hk : (Cond.classLink own ik cls).before args s = true) (hini : (Cond.initialized cls).before args s = true) (hstr : vk_R own is text sa s) (hat : ∀ w ∈ vx_atS own ic cls names, w.before args s = true)
    (hgood : ∀ w ∈ Cond.classLink own ik cls :: Cond.initialized cls :: vx_atS own ic cls names, vx_ot w = true)
    (hU : vx_Zq Bundle.tN "UNASSIGNED_STACK" Bundle.steD A s s.heap) (hN : vx_Zq Bundle.tN "SUPPRESSED_SENTINEL" Bundle.listD A s s.heap) (hS : va_S A s.heap H locs) (hsize : ls.size = c.maxLocals)
    (d0 : decode cc pc = .ok (.new ik, 3)) (d3 : decode cc (pc + 3) = .ok (.dup, 1)) (d4 : decode cc (pc + 4) = .ok (.ldc is, 2)) (d6 : decode cc (pc + 6) = .ok (.invokespecial ic, 3)) (d9 : decode cc (pc + 9) = .ok (.athrow, 1))
    (hout : ∀ x ∈ c.exceptionTable.toList, covers x (pc + 9) = false)
    (hRframes : names.length + 3 < R.frames) (hRlocals : (rest.map fun v => v.category).sum + (13 * (names.length + 1) + 43) ≤ R.locals) (hRcells : cells + 1 ≤ R.cells) (hRslots : slots + 6 ≤ R.slots) (hlocks : meth.locks = false)
    (hx : ∀ t : State, s.vm.Alike t.vm → H.size ≤ t.heap.size → (∀ q : Nat, q < H.size → t.heap[q]? = H[q]?) → XC cls s t)
    (hf : ∀ z ∈ locs, free z.base) (hc : cells + 1 ≤ mc) (hs : slots + 6 ≤ ms) :
    W p l e R s m args below meth c H locs cells slots (vx_MQ below Qc XC args s mc ms free) (F0 m pc ls rest) := by
  intro T hT X
  have htr : e.platform.stackTraces = false := (show e.platform.stackTraces = l.stackTraces by rw [X.admits.platform]).trans hl
  have Y := vx_rebase X (R' := { frames := R.frames, locals := R.locals, cells := 1, slots := 6 }) (Nat.le_refl _) (Nat.le_refl _) hRcells hRslots
  obtain ⟨s', hA⟩ : ∃ z, z = (T.setVm s.vm).setFrames (.invoking m args :: below) := ⟨_, rfl⟩
  rw [← hA] at Y
  have hvm : s'.vm = s.vm := by rw [hA]; rfl
  have hhp : s'.heap = H := by rw [hA]; exact hT
  have hW0 : s.WarmedH s'.vm := by rw [hvm]; exact State.WarmedH.refl s
  have hat' : ∀ w ∈ vx_atS own ic cls names, w.before args s' = true := fun w hw => vx_ot_at hW0 hvm.symm (hgood w (List.mem_cons_of_mem _ (List.mem_cons_of_mem _ hw))) (hat w hw)
  have hk' : (Cond.classLink own ik cls).before args s' = true := vx_ot_at hW0 hvm.symm (hgood _ List.mem_cons_self) hk
  have hini' : (Cond.initialized cls).before args s' = true := vx_ot_at hW0 hvm.symm (hgood _ (List.mem_cons_of_mem _ List.mem_cons_self)) hini
  have hU' : vx_Zq Bundle.tN "UNASSIGNED_STACK" Bundle.steD A s' s'.heap := by rw [hhp]; exact vx_Zq.moved hW0.alike (hU.kept hS.2.1)
  have hN' : vx_Zq Bundle.tN "SUPPRESSED_SENTINEL" Bundle.listD A s' s'.heap := by rw [hhp]; exact vx_Zq.moved hW0.alike (hN.kept hS.2.1)
  have h : ∀ w ∈ Bundle.ownAtoms own ic cls names, w.before args s' = true := vx_own hat' (vx_isRefq hU'.1) (vx_isRefq hN'.1) hU'.2.word hN'.2.word
  have hown' : s'.vm.findClass own = some m.cls := by rw [hvm]; exact hown
  have hins : (Cond.instantiable cls 6).before args s' = true := h _ (by simp [Bundle.ownAtoms])
  obtain ⟨vm₁, cX, kX, hfX, hkX, -, -, X₁, st1⟩ := Y.newCold hexec (own := own) (C := cls) (index := ik) (n := 6) hown' hk' hins hini'
    (g := F0 m pc ls rest) rfl (by rw [hb]; exact d0) (Nat.le_refl _) (Nat.le_refl _)
  generalize hT1 : (T.setVm vm₁).pushCell { cls := cX, slots := kX.instanceTypes.map defaultValue, vm := .none } = T1 at X₁ st1
  have hcat : (Value.ref T.heap.size).category = 1 := rfl
  have hcellA : T1.heap[T.heap.size]? = some (freshCell cX kX) := by rw [← hT1]; exact State.heap_pushCell_size _ _
  have d3' : decode c.code (pc + 3) = .ok (.dup, 1) := by rw [hb]; exact d3
  have d4' : decode c.code (pc + 4) = .ok (.ldc is, 2) := by rw [hb]; exact d4
  have hstr' : vk_R own is text sa s' := vk_R.warm hW0 hstr
  obtain ⟨U, hsteps, hrun, hend, hW, hsame, ce, hce, hO⟩ := X₁.ctorThrowS hexec htr (own := own) (cls := cls) (names := names) (ic := ic) hown' hcls hnames h (fun x hx => nomatch hx) hfX hkX hcellA (by rw [hhp, hT]; exact Nat.le_refl _) (msg := .ref sa) rfl
    (g := { method := m, pc := pc + 6, locals := ls, stack := .ref sa :: .ref T.heap.size :: .ref T.heap.size :: rest, locked := none }) rfl hsize rfl rfl (rest := rest) rfl
    (by rw [hb]; exact d6) (by rw [hb]; exact d9) hout hRframes (by simp only [List.map_cons, List.sum_cons, hcat]; omega) hlocks
  obtain ⟨f1, f2⟩ := vx_frame hsame
  rw [hhp] at f1 f2
  have hWs : s.WarmedH U.vm := State.WarmedH.trans hW0 hW
  have hcl : s.vm.findClass cls = some ce.cls := by
    have h9 := hO.cls
    rw [hvm] at h9
    exact h9
  have hall : s.sameButNew ({ U with vm := s.vm } : State) locs mc ms := by
    subst hA
    obtain ⟨e1, e2⟩ := hsame
    rw [State.setFrames_setFrames] at e1
    have h2 : (T.setVm s.vm).sameButNew ({ U with vm := s.vm } : State) [] (0 + 1) (0 + 6) := ⟨e1, e2⟩
    have h3 := X.same.trans h2
    rw [List.append_nil] at h3
    exact h3.mono hc hs
  refine ⟨U, ?_, .threw T.heap.size, hrun, hend, Or.inr ⟨T.heap.size, rfl, cls, ce, locs, hx U hWs.alike f1 (fun q hq => f2 q hq (fun z hz => nomatch hz)), hce, hO.vm, hcl, hWs, hall, hf⟩⟩
  refine st1 _ ?_
  show Steps p.tables e below (T1.setTop { method := m, pc := pc + 3, locals := ls, stack := .ref T.heap.size :: rest, locked := none }) _
  jvm_step X₁.here [X₁.here.top, hexec, d3', Value.category]
  exact X₁.ldcString hexec (own := own) (text := text) (index := is) (a := sa) hown' hstr'.1 hstr'.2
    (g := { method := m, pc := pc + 4, locals := ls, stack := .ref T.heap.size :: .ref T.heap.size :: rest, locked := none }) rfl d4' _ hsteps
/-- 'throw new E("text")', the text by a wide index -/
theorem vx_throwSW {cc : ByteArray} {pc : Nat} (hexec : p.tables.exec = Jvm.exec) (hb : c.code = cc) (hl : l.stackTraces = false) {own cls text : String} {names : List String} {ik is ic mc ms sa : Nat} {A : Nat → Prop}
    (hown : s.vm.findClass own = some m.cls) (hcls : Bundle.fit cls = true) (hnames : ∀ n ∈ names, Bundle.fit n = true)
    (hk : (Cond.classLink own ik cls).before args s = true) (hini : (Cond.initialized cls).before args s = true) (hstr : vk_R own is text sa s) (hat : ∀ w ∈ vx_atS own ic cls names, w.before args s = true)
    (hgood : ∀ w ∈ Cond.classLink own ik cls :: Cond.initialized cls :: vx_atS own ic cls names, vx_ot w = true)
    (hU : vx_Zq Bundle.tN "UNASSIGNED_STACK" Bundle.steD A s s.heap) (hN : vx_Zq Bundle.tN "SUPPRESSED_SENTINEL" Bundle.listD A s s.heap) (hS : va_S A s.heap H locs) (hsize : ls.size = c.maxLocals)
    (d0 : decode cc pc = .ok (.new ik, 3)) (d3 : decode cc (pc + 3) = .ok (.dup, 1)) (d4 : decode cc (pc + 4) = .ok (.ldc_w is, 3)) (d7 : decode cc (pc + 7) = .ok (.invokespecial ic, 3)) (d10 : decode cc (pc + 10) = .ok (.athrow, 1))
    (hout : ∀ x ∈ c.exceptionTable.toList, covers x (pc + 10) = false)
    (hRframes : names.length + 3 < R.frames) (hRlocals : (rest.map fun v => v.category).sum + (13 * (names.length + 1) + 43) ≤ R.locals) (hRcells : cells + 1 ≤ R.cells) (hRslots : slots + 6 ≤ R.slots) (hlocks : meth.locks = false)
    (hx : ∀ t : State, s.vm.Alike t.vm → H.size ≤ t.heap.size → (∀ q : Nat, q < H.size → t.heap[q]? = H[q]?) → XC cls s t)
    (hf : ∀ z ∈ locs, free z.base) (hc : cells + 1 ≤ mc) (hs : slots + 6 ≤ ms) :
    W p l e R s m args below meth c H locs cells slots (vx_MQ below Qc XC args s mc ms free) (F0 m pc ls rest) := by
  intro T hT X
  have htr : e.platform.stackTraces = false := (show e.platform.stackTraces = l.stackTraces by rw [X.admits.platform]).trans hl
  have Y := vx_rebase X (R' := { frames := R.frames, locals := R.locals, cells := 1, slots := 6 }) (Nat.le_refl _) (Nat.le_refl _) hRcells hRslots
  obtain ⟨s', hA⟩ : ∃ z, z = (T.setVm s.vm).setFrames (.invoking m args :: below) := ⟨_, rfl⟩
  rw [← hA] at Y
  have hvm : s'.vm = s.vm := by rw [hA]; rfl
  have hhp : s'.heap = H := by rw [hA]; exact hT
  have hW0 : s.WarmedH s'.vm := by rw [hvm]; exact State.WarmedH.refl s
  have hat' : ∀ w ∈ vx_atS own ic cls names, w.before args s' = true := fun w hw => vx_ot_at hW0 hvm.symm (hgood w (List.mem_cons_of_mem _ (List.mem_cons_of_mem _ hw))) (hat w hw)
  have hk' : (Cond.classLink own ik cls).before args s' = true := vx_ot_at hW0 hvm.symm (hgood _ List.mem_cons_self) hk
  have hini' : (Cond.initialized cls).before args s' = true := vx_ot_at hW0 hvm.symm (hgood _ (List.mem_cons_of_mem _ List.mem_cons_self)) hini
  have hU' : vx_Zq Bundle.tN "UNASSIGNED_STACK" Bundle.steD A s' s'.heap := by rw [hhp]; exact vx_Zq.moved hW0.alike (hU.kept hS.2.1)
  have hN' : vx_Zq Bundle.tN "SUPPRESSED_SENTINEL" Bundle.listD A s' s'.heap := by rw [hhp]; exact vx_Zq.moved hW0.alike (hN.kept hS.2.1)
  have h : ∀ w ∈ Bundle.ownAtoms own ic cls names, w.before args s' = true := vx_own hat' (vx_isRefq hU'.1) (vx_isRefq hN'.1) hU'.2.word hN'.2.word
  have hown' : s'.vm.findClass own = some m.cls := by rw [hvm]; exact hown
  have hins : (Cond.instantiable cls 6).before args s' = true := h _ (by simp [Bundle.ownAtoms])
  obtain ⟨vm₁, cX, kX, hfX, hkX, -, -, X₁, st1⟩ := Y.newCold hexec (own := own) (C := cls) (index := ik) (n := 6) hown' hk' hins hini'
    (g := F0 m pc ls rest) rfl (by rw [hb]; exact d0) (Nat.le_refl _) (Nat.le_refl _)
  generalize hT1 : (T.setVm vm₁).pushCell { cls := cX, slots := kX.instanceTypes.map defaultValue, vm := .none } = T1 at X₁ st1
  have hcat : (Value.ref T.heap.size).category = 1 := rfl
  have hcellA : T1.heap[T.heap.size]? = some (freshCell cX kX) := by rw [← hT1]; exact State.heap_pushCell_size _ _
  have d3' : decode c.code (pc + 3) = .ok (.dup, 1) := by rw [hb]; exact d3
  have d4' : decode c.code (pc + 4) = .ok (.ldc_w is, 3) := by rw [hb]; exact d4
  have hstr' : vk_R own is text sa s' := vk_R.warm hW0 hstr
  obtain ⟨U, hsteps, hrun, hend, hW, hsame, ce, hce, hO⟩ := X₁.ctorThrowS hexec htr (own := own) (cls := cls) (names := names) (ic := ic) hown' hcls hnames h (fun x hx => nomatch hx) hfX hkX hcellA (by rw [hhp, hT]; exact Nat.le_refl _) (msg := .ref sa) rfl
    (g := { method := m, pc := pc + 7, locals := ls, stack := .ref sa :: .ref T.heap.size :: .ref T.heap.size :: rest, locked := none }) rfl hsize rfl rfl (rest := rest) rfl
    (by rw [hb]; exact d7) (by rw [hb]; exact d10) hout hRframes (by simp only [List.map_cons, List.sum_cons, hcat]; omega) hlocks
  obtain ⟨f1, f2⟩ := vx_frame hsame
  rw [hhp] at f1 f2
  have hWs : s.WarmedH U.vm := State.WarmedH.trans hW0 hW
  have hcl : s.vm.findClass cls = some ce.cls := by
    have h9 := hO.cls
    rw [hvm] at h9
    exact h9
  have hall : s.sameButNew ({ U with vm := s.vm } : State) locs mc ms := by
    subst hA
    obtain ⟨e1, e2⟩ := hsame
    rw [State.setFrames_setFrames] at e1
    have h2 : (T.setVm s.vm).sameButNew ({ U with vm := s.vm } : State) [] (0 + 1) (0 + 6) := ⟨e1, e2⟩
    have h3 := X.same.trans h2
    rw [List.append_nil] at h3
    exact h3.mono hc hs
  refine ⟨U, ?_, .threw T.heap.size, hrun, hend, Or.inr ⟨T.heap.size, rfl, cls, ce, locs, hx U hWs.alike f1 (fun q hq => f2 q hq (fun z hz => nomatch hz)), hce, hO.vm, hcl, hWs, hall, hf⟩⟩
  refine st1 _ ?_
  show Steps p.tables e below (T1.setTop { method := m, pc := pc + 3, locals := ls, stack := .ref T.heap.size :: rest, locked := none }) _
  jvm_step X₁.here [X₁.here.top, hexec, d3', Value.category]
  exact X₁.ldcStringW hexec (own := own) (text := text) (index := is) (a := sa) hown' hstr'.1 hstr'.2
    (g := { method := m, pc := pc + 4, locals := ls, stack := .ref T.heap.size :: .ref T.heap.size :: rest, locked := none }) rfl d4' _ hsteps
end Ends
section Bodies
variable {l : Launch}
theorem vx_ofW {y : MethodName} {ws ws' : List Cond} {rm : Room} {Pc : Array Value → State → Prop} {Qc : Array Value → State → Outcome → State → Prop} {XC : String → State → State → Prop} {mc ms : Nat} {free : Addr → Prop} {cc : ByteArray} {maxL : Nat} {ret : Option FieldType}
    (hy : plainName y.cls = true) (hw : ws = Cond.code y cc maxL ret :: ws')
    (body : ∀ p e s m args below meth c s₁, BodyLoose p l y (headSpec ws rm) cc maxL ret e s m args below meth c s₁ → c.maxLocals = maxL → (∀ x ∈ c.exceptionTable.toList, False) → Pc args s →
      W p l e (headSpec ws rm).room s m args below meth c s.heap [] 0 0 (vx_MQ below Qc XC args s mc ms free) (entryFrame m args maxL)) : vx_Met l y ws rm Pc Qc XC mc ms free := by
  refine MetFree.of_bodyS (code := cc) (maxLocals := maxL) (ret := ret) hy ?_ ?_
  · intro args s m h hn
    obtain ⟨meth, c, h1, h2, h3, h4, h5, h6, -, -⟩ := Cond.code_spec hn (atoms_spec (ws := ws) h _ (by rw [hw]; exact List.mem_cons_self))
    exact ⟨meth, c, h1, h2, h3, h4, h5, h6⟩
  · intro p e s m args below meth c s₁ B hml hP _
    have hh0 : s₁.heap = s.heap := by rw [B.state]; rfl
    have ht : ∀ x ∈ c.exceptionTable.toList, False := by
      obtain ⟨meth9, c9, h1, h2, -, -, -, -, h7, -⟩ := Cond.code_spec B.named (atoms_spec (ws := ws) B.pre _ (by rw [hw]; exact List.mem_cons_self))
      cases Option.some.inj (h1.symm.trans B.method)
      cases Option.some.inj (h2.symm.trans (Stand.of_body B).code)
      intro x hx
      rw [Array.isEmpty_iff.mp h7] at hx
      cases hx
    obtain ⟨t, a1, o, b1, b2, b3⟩ := body p e s m args below meth c s₁ B hml ht hP s₁ hh0 (Stand.of_body B)
    exact ⟨t, o, a1, b1, b2, b3⟩
/-- the table of a body with handlers -/
theorem vx_table {p : Program} {x y : MethodName} {S : Spec} {cc bytes : ByteArray} {maxL maxL' : Nat} {ret ret' : Option FieldType} {e : Env} {s s₁ : State} {m : MethodId} {args : Array Value} {below : List Frame} {meth : Method} {c : Code} {hh : List (Nat × Nat × Nat × Nat)}
    (B : BodyLoose p l y S cc maxL ret e s m args below meth c s₁) (h : (Cond.codeWith y bytes maxL' ret' hh).before args s = true) : c.exceptionTable.toList = tableOf hh := by
  obtain ⟨m9, meth9, c9, hn9, h1, h2, -, -, h6, -⟩ := Cond.codeWith_spec h
  cases Option.some.inj (hn9.symm.trans B.named)
  cases Option.some.inj (h1.symm.trans B.method)
  cases Option.some.inj (h2.symm.trans (Stand.of_body B).code)
  rw [← h6, table_eq]
end Bodies
end VXA
/-! ===== END ===== -/
/-! ===== BEGIN a static call of a method with an exception table ===== -/
section VXS
variable {p : Program} {l : Launch} {e : Env} {R : Room} {s : State} {m : MethodId} {args : Array Value} {below : List Frame} {meth : Method} {c : Code} {T : State} {H : Heap} {locs : List Loc} {cells slots : Nat}
abbrev vx_CSW (R : Room) (s : State) (args : Array Value) (own : String) (index : Nat) (y : MethodName) (bytes : ByteArray) (maxL : Nat) (ret : Option FieldType) (hh : List (Nat × Nat × Nat × Nat)) (ws : List Cond) (rm : Room) (mc ms n : Nat) : Prop :=
  (rm.cells = mc ∧ rm.slots = ms ∧ rm.frames + 1 ≤ R.frames ∧ 8 + (maxL + 11) + rm.locals ≤ R.locals ∧ (∀ w ∈ ws, ∀ (a' : Array Value) (U : State), s.WarmedH U.vm → w.before a' U = true) ∧ Cond.codeWith y bytes maxL ret hh ∈ ws) ∧
  (Cond.codeWith y bytes maxL ret hh).before args s = true ∧ (Cond.initialized y.cls).before args s = true ∧ (y.cls ≠ "java/lang/invoke/MethodHandle" ∧ y.cls ≠ "java/lang/invoke/VarHandle") ∧
  (∀ sig, parseMethodDescriptor y.desc = some sig → n = sig.parameters.length) ∧ (Cond.methodLink own index y).before args s = true ∧ (Cond.static y).before args s = true
theorem vx_cwSW {own : String} {index maxL mc ms : Nat} {y : MethodName} {bytes : ByteArray} {ret : Option FieldType} {hh : List (Nat × Nat × Nat × Nat)} {Ts ws ws' : List Cond} {rm : Room} (n : Nat) (ht : ∀ w ∈ Ts, w.before args s = true) (hT : GoodIn Ts (va_wsS own index y ws)) (hw : ws = Cond.codeWith y bytes maxL ret hh :: ws') (hrc : rm.cells = mc) (hrs : rm.slots = ms)
    (hd : y.cls ≠ "java/lang/invoke/MethodHandle" ∧ y.cls ≠ "java/lang/invoke/VarHandle" ∧ (parseMethodDescriptor y.desc).map (fun d => d.parameters.length) = some n) (hR : rm.frames + 1 ≤ R.frames ∧ 8 + (maxL + 11) + rm.locals ≤ R.locals) :
    vx_CSW R s args own index y bytes maxL ret hh ws rm mc ms n := by
  have ok : ∀ w ∈ va_wsS own index y ws, w.before args s = true := fun w h => ht w (hT w h).1
  have hG : GoodIn Ts ws := fun w h => hT w (by unfold va_wsS; exact List.mem_append_right _ h)
  have hc : Cond.codeWith y bytes maxL ret hh ∈ ws := by rw [hw]; exact List.mem_cons_self
  refine ⟨⟨hrc, hrs, hR.1, hR.2, pay_in ht hG, hc⟩, ht _ (hG _ hc).1, ok _ (by simp [va_wsS]), ⟨hd.1, hd.2.1⟩, fun sig h => ?_, ok _ (by simp [va_wsS]), ok _ (by simp [va_wsS])⟩
  have h2 := hd.2.2
  rw [h] at h2
  exact (Option.some.inj h2).symm
theorem vx_callSW (X : Stand p l e R s m args below meth c T locs cells slots) (hexec : p.tables.exec = Jvm.exec) {own : String} {index : Nat} {y : MethodName} {bytes : ByteArray} {maxL : Nat} {ret : Option FieldType} {hh : List (Nat × Nat × Nat × Nat)}
    (hown : s.vm.findClass own = some m.cls) (hlink : (Cond.methodLink own index y).before args s = true) (hstat : (Cond.static y).before args s = true) (hinit : (Cond.initialized y.cls).before args s = true)
    (hcode : (Cond.codeWith y bytes maxL ret hh).before args s = true) (hy : y.cls ≠ "java/lang/invoke/MethodHandle" ∧ y.cls ≠ "java/lang/invoke/VarHandle")
    {W9 : Nat} {Pre : Pt → Array Value → Prop} {Post : Pt → Array Value → Option Value → Pt → Prop} (hK : Back l R p e below s args y 3 W9 Pre Post)
    {g : JFrame} (hg : g.method = m) (hsize : g.locals.size = c.maxLocals) {argsL rest : List Value} (hlen : ∀ sig, parseMethodDescriptor y.desc = some sig → argsL.length = sig.parameters.length)
    (hstack : g.stack = argsL.reverse ++ rest) (hW : 2 * g.monitorRoom + (rest.map fun v => v.category).sum ≤ W9) (hdg : decode c.code g.pc = .ok (.invokestatic index, 3))
    (hpre : ∀ vm₁, s.WarmedH vm₁ → Pre ⟨T.setVm vm₁, locs, cells, slots⟩ argsL.toArray) :
    ∃ (v : Option Value) (vm₁ : Vm) (B : Pt), s.WarmedH vm₁ ∧ Stand p l e R s m args below meth c B.U B.locs B.cells B.slots ∧ Post ⟨T.setVm vm₁, locs, cells, slots⟩ argsL.toArray v B ∧
      ∀ target, Steps p.tables e below (B.U.setTop { g with pc := g.pc + 3, stack := v.toList ++ rest }) target → Steps p.tables e below (T.setTop g) target := by
  obtain ⟨mk, methM, cM, hnamed, hmethM, -, -, -, -, -, -, hsigM⟩ := Cond.codeWith_spec hcode
  have hstatic : methM.isStatic = true := Cond.static_spec hnamed hmethM hstat
  obtain ⟨kP, hkP, -⟩ := className_of_methodNamed hnamed
  have hinitP : kP.init = .initialized := Cond.initialized_spec (findClass_of_methodNamed hnamed) hkP hinit
  obtain ⟨vm₁, X₁, hstep₁⟩ := X.invokestatic hexec hown hlink hnamed hmethM hstatic hkP hinitP hy (g := g) hg (argsL := argsL) (rest := rest) (hlen _ hsigM) hstack hdg
  obtain ⟨v, B, X', hpost, hsteps⟩ := hK m meth c ⟨T.setVm vm₁, locs, cells, slots⟩ { g with stack := rest } (.invokestatic index) mk argsL.toArray X₁ hg hsize hdg hW (X₁.named hnamed) (hpre vm₁ X₁.warmed)
  exact ⟨v, vm₁, B, X₁.warmed, X', hpost, fun target h => hstep₁ _ fun acts => by rw [doInvoke_state]; exact hsteps.trans h⟩
theorem vx_runSW {y : MethodName} {bytes cc : ByteArray} {maxL nL mc ms n index : Nat} {ret : Option FieldType} {hh : List (Nat × Nat × Nat × Nat)} {ws : List Cond} {rm : Room} {Pc : Array Value → State → Prop} {Qc : Array Value → State → Outcome → State → Prop} {free : Addr → Prop} {Ts : List Cond} {own : String} {As rest : List Value} {g : JFrame}
    (S : CallFix p m c cc nL s args Ts own) (hM : Met l y ws rm Pc Qc mc ms free) (cw : vx_CSW R s args own index y bytes maxL ret hh ws rm mc ms n) (hp : PreS s H Pc As)
    (hg : g.method = m) (hn : As.length = n) (hsize : g.locals.size = nL) (hstack : g.stack = As.reverse ++ rest) (hW : 2 * g.monitorRoom + (rest.map fun v => v.category).sum ≤ 8) (hdg : decode cc g.pc = .ok (.invokestatic index, 3)) (hf : cells + mc ≤ R.cells ∧ slots + ms ≤ R.slots) :
    va_Run p l e R s m args below meth c H locs cells slots mc ms g rest (Qc As.toArray) (free) := by
  obtain ⟨⟨hrc, hrs, hfr, hlo, hws, hcw⟩, hcode, hini, hy, hlen, hl, hstt⟩ := cw
  have hK : Back l R p e below s args y 3 8 (PreOf R mc ms Pc) (PostOf Qc mc ms free) := va_backW (hh := hh) (bytes := bytes) (maxL := maxL) (ret := ret) hM hp.1 hrc hrs hfr hlo hws hcw (fun a' U hW => word_at hW (Or.inl (by first | rfl | simp [Cond.onTables, Cond.keeps, Cond.steady])) hini)
  obtain ⟨hx, hb, hml, ho, -⟩ := S
  intro T hT X
  obtain ⟨v, vm₁, ⟨U', l2, c2, s2⟩, hW₁, X', ⟨g', mk, t, L, e1, e2, hq, h1, hL, h2, h3⟩, st⟩ := vx_callSW X hx (hh := hh) (bytes := bytes) (maxL := maxL) (ret := ret) ho hl hstt hini hcode hy hK hg (hsize.trans hml.symm) (argsL := As) (rest := rest) (fun sig h => hn.trans (hlen sig h)) hstack hW (by rw [hb]; exact hdg)
    (fun vm₁ hW₁ => ⟨hf.1, hf.2, hp.2 (T.setVm vm₁) hT hW₁⟩)
  dsimp only [Pt.U, Pt.locs, Pt.cells, Pt.slots] at X' e1 e2 h1 h2 h3 st
  subst h1; subst h2; subst h3
  exact ⟨v, (T.setVm vm₁).calling g' mk As.toArray, t, U', L, hT, X', hL, e1, e2, hq, st⟩
/-- not caught here, past rows that name other classes: it goes on to the caller -/
theorem vx_outP {p : Program} {l : Launch} {e : Env} {R : Room} {s : State} {m : MethodId} {args : Array Value} {below : List Frame} {meth : Method} {c : Code} {H : Heap} {locs : List Loc} {cells slots : Nat} {free : Addr → Prop} {ls : Array Slot} {rest : List Value} {Qc : Array Value → State → Outcome → State → Prop} {XC : String → State → State → Prop}
    {pc : Nat} {own E : String} {ce : Cell} {q : Addr} {mc ms : Nat} (hown : s.vm.findClass own = some m.cls) (hlocks : meth.locks = false)
    (hpass : ∀ z ∈ c.exceptionTable.toList, covers z pc = false ∨ (z.catchType ≠ 0 ∧ ∃ nm : String, (Cond.classLink own z.catchType nm).before args s = true ∧ va_Nc E nm s)) (hcell : H[q]? = some ce) (hv : ce.vm = .none) (hcl : s.vm.findClass E = some ce.cls)
    (hx : ∀ t : State, t.heap = H → s.vm.Alike t.vm → XC E s t) (hf : ∀ z ∈ locs, free z.base) (hc : cells ≤ mc) (hs : slots ≤ ms) :
    vx_W p l e R s m args below meth c H locs cells slots (vx_MQ below Qc XC args s mc ms free) (F0 m pc ls rest) q := by
  intro T hT X
  have hpl : e.platform.magicAccessors = ({} : Platform).magicAccessors := by rw [X.admits.platform]
  obtain ⟨vm', hW', X', st⟩ := Stand.outThrough X hlocks q (g := F0 m pc ls rest) rfl rfl rfl (cell := ce) (by rw [hT]; exact hcell) (by rw [hv]; rfl)
    (by obtain ⟨k9, h9, -⟩ := Vm.findClass_spec hcl; exact ⟨k9, h9⟩) (fun z hz => by
      rcases hpass z hz with h | ⟨hz0, nm, hl1, hn1⟩
      · exact Or.inl h
      · obtain ⟨c6, hc6, hcl6⟩ := Cond.classLink_spec hown hl1 e.platform hpl
        obtain ⟨a8, b8, h1, h2, h3⟩ := hn1
        cases Option.some.inj (h1.symm.trans hcl)
        cases Option.some.inj (h2.symm.trans hc6)
        exact Or.inr ⟨hz0, _, hcl6, h3⟩)
  obtain ⟨g₀, hfr⟩ := X'.frames_eq
  have hcell9 : ((T.setVm vm').setFrames (.throwing q :: below)).heap[q]? = some ce := by
    show T.heap[q]? = some ce
    rw [hT]; exact hcell
  have hend : Ended ((T.setVm vm').setFrames (.throwing q :: below)) below (.threw q) := State.frames_setFrames _ (State.cur_lt_of_frames hfr)
  refine ⟨(T.setVm vm').setFrames (.throwing q :: below), ?_, .threw q, X'.here.running, hend, Or.inr ⟨q, rfl, E, ce, locs, hx _ hT (X'.ends _).1.alike, hcell9, hv, hcl, (X'.ends _).1, (X'.ends _).2.mono hc hs, hf⟩⟩
  rw [X.pushThrowing_eq]
  exact st
/-- a thing of a world lies in the heap -/
theorem vx_lt {D : va_G} {cl : List vw_C} {ws : va_W} {H1 : Heap} (h : va_P D cl ws H1) {k : Nat} {q : Nat × va_E} (hk : ws[k]? = some q) : q.1 < H1.size := (h k q hk).lt
end VXS
/-! ===== END ===== -/
/-! ===== BEGIN methods with a table of their own: called by a name, returning or throwing ===== -/
section VXH
/-! vx_backW, vx_callVX, vx_callSX, vx_callVW, vx_runVW, vx_runVX, vx_runSX, vx_ofWH follow the same proofs as their sisters above (Free/Laws.lean, Shelf42/LK1.lean); vx_outP calls Shelf42/NT130.lean (outThrough). -/
section
variable {l : Launch} {R : Room} {p : Program} {e : Env} {below : List Frame} {s : State} {sargs : Array Value} {y : MethodName} {len W9 : Nat}
theorem vx_backW {ws : List Cond} {rm : Room} {Pc : Array Value → State → Prop} {Qc : Array Value → State → Outcome → State → Prop} {XC : String → State → State → Prop} {mc ms : Nat} {free : Addr → Prop} {bytes : ByteArray} {maxL : Nat} {ret : Option FieldType} {hh : List (Nat × Nat × Nat × Nat)}
    (hM : vx_Met l y ws rm Pc Qc XC mc ms free) (hblind : FrameBlind Pc) (hrc : rm.cells = mc) (hrs : rm.slots = ms)
    (hframes : rm.frames + 1 ≤ R.frames) (hlocals : W9 + (maxL + 11) + rm.locals ≤ R.locals)
    (hws : ∀ w ∈ ws, ∀ a' U, s.WarmedH U.vm → w.before a' U = true) (hcode : Cond.codeWith y bytes maxL ret hh ∈ ws) (hinit : ∀ a' U, s.WarmedH U.vm → (Cond.initialized y.cls).before a' U = true) :
    vx_Back l R p e below s sargs y len W9 (PreOf R mc ms Pc) (PostOf Qc mc ms free) (vx_Post XC mc ms free) := by
  intro m meth c A g ig mk a X hg hsize hdg hW hn hp
  have h1 : (headSpec ws rm).pre.before a A.U = true := atoms_intro fun w hw => hws w hw _ _ X.warmed
  have h2 : (Cond.codeWith y bytes maxL ret hh).before a A.U = true := hws _ hcode _ _ X.warmed
  have h3 : (Cond.initialized y.cls).before a A.U = true := hinit _ _ X.warmed
  have h4 : A.cells + (headSpec ws rm).room.cells ≤ R.cells := by rw [show (headSpec ws rm).room.cells = mc from hrc]; exact hp.1
  have h5 : A.slots + (headSpec ws rm).room.slots ≤ R.slots := by rw [show (headSpec ws rm).room.slots = ms from hrs]; exact hp.2.1
  have hPc : Pc a (A.U.calling g mk a) := hblind _ _ _ _ hp.2.2
  obtain ⟨U, Ls, c0, s0⟩ := A
  dsimp only [Pt.U, Pt.locs, Pt.cells, Pt.slots] at h1 h2 h3 h4 h5 X hn hPc ⊢
  obtain ⟨m9, methY, cY, hn9, hmY, hcY, -, hlY, -⟩ := Cond.codeWith_spec h2
  cases Option.some.inj (hn9.symm.trans hn)
  obtain ⟨kY, hkY, -⟩ := className_of_methodNamed hn
  have hinitY : kY.init = .initialized := Cond.initialized_spec (findClass_of_methodNamed hn) hkY h3
  have h : At U g.method c below := by rw [hg]; exact X.here
  have hlocals9 : W9 + (maxL + 11) + (headSpec ws rm).room.locals ≤ R.locals := hlocals
  have happ : (headSpec ws rm).appliesLoose y e.platform (U.calling g mk a) = true :=
    Spec.appliesLoose_calling (g := g) h hdg hn hkY hinitY
      (X.room_calling (g := g) (R' := (headSpec ws rm).room) hsize hmY hcY hframes (by rw [hlY]; omega) h4 h5) h1
  obtain ⟨mid, hmid⟩ := h.above
  have hfr : (U.setTop g).frames = (.java g :: mid) ++ below := by rw [State.frames_setTop' g h.top, hmid]; rfl
  obtain ⟨o, s₂, hsteps, -, hend, hq⟩ := Steps.callFree hM p X.admits X.cas X.clock (acts := []) hfr happ hPc trivial
  have hq' : vx_Q Qc XC mc ms free a (U.calling g mk a) o s₂ := hq
  rw [State.frames_setTop' g h.top] at hend
  obtain ⟨g₀, hg0⟩ := Option.isSome_iff_exists.mp h.top
  obtain ⟨r, hr⟩ := State.topJava?_eq_some.mp hg0
  have hr' : (({ U with heap := s₂.heap, slotsUsed := s₂.slotsUsed } : State).setVm s₂.vm).frames = .java g₀ :: r := hr
  rcases hq' with ⟨hqc, L, hfe, hL⟩ | ⟨q, rfl, E, ce, L, hx, hce, hcv, hcl, hW₂, hsm, hL⟩
  · obtain ⟨⟨v, rfl⟩, hW₂, e2, q2, q3, q4, q5, q6⟩ := id hfe
    have e3 : s₂ = ({ (U.calling g mk a).setFrames s₂.frames with heap := s₂.heap, slotsUsed := s₂.slotsUsed } : State).setVm s₂.vm := by
      have : s₂ = ({ s₂ with vm := (U.calling g mk a).vm } : State).setVm s₂.vm := rfl
      rw [e2] at this
      exact this
    obtain ⟨c₂, i₂, len₂, hc₂, hd₂, hf₂⟩ := hend
    have hW' : U.WarmedH s₂.vm := hW₂
    have hcc : c₂ = c := by
      have h1 : s₂.code? g.method = U.code? g.method := by
        rw [State.code?_eq, State.code?_eq, hW'.alike.method?]
      exact Option.some.inj (hc₂.symm.trans (h1.trans h.code))
    subst hcc
    have hlen : len₂ = len := by rw [hdg] at hd₂; cases hd₂; rfl
    subst hlen
    have hs₂ : s₂ = (({ U with heap := s₂.heap, slotsUsed := s₂.slotsUsed } : State).setVm s₂.vm).setTop { g with pc := g.pc + len₂, stack := v.toList ++ g.stack } := by
      refine e3.trans ?_
      rw [hf₂, State.calling_eq h.top, State.setFrames_setFrames, State.setTop_of_frames _ hr', hr]
      rfl
    have hsame : U.sameButNew ({ U with heap := s₂.heap, slotsUsed := s₂.slotsUsed } : State) L mc ms := by
      refine ⟨?_, q2, q3, q4, q5, q6⟩
      obtain ⟨t, ht, -⟩ := State.frames_cons hr
      show ({ U with heap := s₂.heap, slotsUsed := s₂.slotsUsed } : State) = { U.setFrames U.frames with heap := s₂.heap, slotsUsed := s₂.slotsUsed }
      rw [State.setFrames_self ht]
    subst hg
    refine Or.inl ⟨v, ⟨(({ U with heap := s₂.heap, slotsUsed := s₂.slotsUsed } : State).setVm s₂.vm), Ls ++ L, c0 + mc, s0 + ms⟩,
      ⟨X.admits, X.cas, X.clock, X.frames, X.room, X.hears, X.method, X.code, (X.here.setHeapUsed s₂.heap s₂.slotsUsed).setVm hW'.alike, X.tail, State.WarmedH.trans X.warmed hW', X.limits, X.bytes, X.same.trans (hsame.setVm s.vm)⟩,
      ⟨g, mk, s₂, L, rfl, rfl, hqc, rfl, hL, rfl, rfl⟩, ?_⟩
    show Steps p.tables e below _ ((({ U with heap := s₂.heap, slotsUsed := s₂.slotsUsed } : State).setVm s₂.vm).setTop { g with pc := g.pc + len₂, stack := v.toList ++ g.stack })
    rw [← hs₂]
    exact hsteps
  · obtain ⟨e2, q2, q3, q4, q5, q6⟩ := id hsm
    have e3 : s₂ = ({ (U.calling g mk a).setFrames s₂.frames with heap := s₂.heap, slotsUsed := s₂.slotsUsed } : State).setVm s₂.vm := by
      have : s₂ = ({ s₂ with vm := (U.calling g mk a).vm } : State).setVm s₂.vm := rfl
      rw [e2] at this
      exact this
    have hf₂ : s₂.frames = .throwing q :: .java g :: U.frames.tail := hend
    have hW' : U.WarmedH s₂.vm := hW₂
    have hs₂ : s₂ = ((({ U with heap := s₂.heap, slotsUsed := s₂.slotsUsed } : State).setVm s₂.vm).setTop g).pushFrame (.throwing q) := by
      refine e3.trans ?_
      rw [hf₂, State.calling_eq h.top, State.setFrames_setFrames, State.pushFrame, State.frames_setTop _ hr', State.setTop_of_frames _ hr', State.setFrames_setFrames, hr]
      rfl
    have hsame : U.sameButNew ({ U with heap := s₂.heap, slotsUsed := s₂.slotsUsed } : State) L mc ms := by
      refine ⟨?_, q2, q3, q4, q5, q6⟩
      obtain ⟨t, ht, -⟩ := State.frames_cons hr
      show ({ U with heap := s₂.heap, slotsUsed := s₂.slotsUsed } : State) = { U.setFrames U.frames with heap := s₂.heap, slotsUsed := s₂.slotsUsed }
      rw [State.setFrames_self ht]
    subst hg
    refine Or.inr ⟨q, ⟨(({ U with heap := s₂.heap, slotsUsed := s₂.slotsUsed } : State).setVm s₂.vm), Ls ++ L, c0 + mc, s0 + ms⟩,
      ⟨X.admits, X.cas, X.clock, X.frames, X.room, X.hears, X.method, X.code, (X.here.setHeapUsed s₂.heap s₂.slotsUsed).setVm hW'.alike, X.tail, State.WarmedH.trans X.warmed hW', X.limits, X.bytes, X.same.trans (hsame.setVm s.vm)⟩,
      ⟨g, mk, s₂, L, E, ce, rfl, rfl, hx, hce, hcv, hcl, rfl, hL, rfl, rfl⟩, ?_⟩
    show Steps p.tables e below _ (((({ U with heap := s₂.heap, slotsUsed := s₂.slotsUsed } : State).setVm s₂.vm).setTop g).pushFrame (.throwing q))
    rw [← hs₂]
    exact hsteps
end
variable {p : Program} {l : Launch} {e : Env} {R : Room} {s : State} {m : MethodId} {args : Array Value} {below : List Frame} {meth : Method} {c : Code} {T : State} {H : Heap} {locs : List Loc} {cells slots : Nat}
theorem vx_callVX (X : Stand p l e R s m args below meth c T locs cells slots) (hexec : p.tables.exec = Jvm.exec) {own C : String} {index : Nat} {y : MethodName} {bytes : ByteArray} {maxL : Nat} {ret : Option FieldType} {hh : List (Nat × Nat × Nat × Nat)}
    (hown : s.vm.findClass own = some m.cls) (hlink : (Cond.methodLink own index y).before args s = true) (hinst : (Cond.instanceMethod y).before args s = true) (hsel : (Cond.selects C y y).before args s = true)
    (hcode : (Cond.codeWith y bytes maxL ret hh).before args s = true) (hy : y.cls ≠ "java/lang/invoke/MethodHandle" ∧ y.cls ≠ "java/lang/invoke/VarHandle")
    {W9 : Nat} {Pre : Pt → Array Value → Prop} {Post : Pt → Array Value → Option Value → Pt → Prop} {PostX : Pt → Array Value → Addr → Pt → Prop} (hK : vx_Back l R p e below s args y 3 W9 Pre Post PostX)
    {b : Addr} {cellB : Cell} (hcell : T.heap[b]? = some cellB) (hobj : cellB.vm.isStatics = false) (hcls : s.vm.findClass C = some cellB.cls)
    {g : JFrame} (hg : g.method = m) (hsize : g.locals.size = c.maxLocals) {argsL rest : List Value} (hlen : ∀ sig, parseMethodDescriptor y.desc = some sig → argsL.length = sig.parameters.length)
    (hstack : g.stack = argsL.reverse ++ .ref b :: rest) (hW : 2 * g.monitorRoom + (rest.map fun v => v.category).sum ≤ W9) (hdg : decode c.code g.pc = .ok (.invokevirtual index, 3))
    (hpre : ∀ vm₁, s.WarmedH vm₁ → Pre ⟨T.setVm vm₁, locs, cells, slots⟩ (Value.ref b :: argsL).toArray) :
    (∃ (v : Option Value) (vm₁ : Vm) (B : Pt), s.WarmedH vm₁ ∧ Stand p l e R s m args below meth c B.U B.locs B.cells B.slots ∧ Post ⟨T.setVm vm₁, locs, cells, slots⟩ (Value.ref b :: argsL).toArray v B ∧
      ∀ target, Steps p.tables e below (B.U.setTop { g with pc := g.pc + 3, stack := v.toList ++ rest }) target → Steps p.tables e below (T.setTop g) target) ∨
    (∃ (q : Addr) (vm₁ : Vm) (B : Pt), s.WarmedH vm₁ ∧ Stand p l e R s m args below meth c B.U B.locs B.cells B.slots ∧ PostX ⟨T.setVm vm₁, locs, cells, slots⟩ (Value.ref b :: argsL).toArray q B ∧
      Steps p.tables e below (T.setTop g) ((B.U.setTop { g with stack := rest }).pushFrame (.throwing q))) := by
  obtain ⟨mk, methM, hnamed, hmethM, hstM, habM⟩ := Cond.instanceMethod_spec hinst
  obtain ⟨m8, methM', cM, hn8, hmethM', -, -, -, -, -, -, hsigM⟩ := Cond.codeWith_spec hcode
  cases Option.some.inj (hn8.symm.trans hnamed)
  cases hmethM.symm.trans hmethM'
  obtain ⟨c2, r2, m2, q1, q2, q3, q4, kP, hkP, hkPi⟩ := Cond.selects_spec hsel
  cases hcls.symm.trans q1
  cases (State.methodFound?_of_named hnamed hy).symm.trans q2
  cases hnamed.symm.trans q3
  have hselP : selectMethod e.platform s.vm cellB.cls mk = .method mk := by rw [Launch.admits_selectMethod X.admits]; exact q4
  obtain ⟨vm₁, X₁, hstep₁⟩ := X.invokevirtual hexec hown hlink hnamed hmethM hstM hkP hkPi hy (a := b) (cell := cellB) hcell
    (fun z h => by rw [h] at hobj; cases hobj) hselP hmethM habM hkP hkPi (g := g) hg (argsL := argsL) (rest := rest) (hlen _ hsigM) hstack hdg
  rcases hK m meth c ⟨T.setVm vm₁, locs, cells, slots⟩ { g with stack := rest } (.invokevirtual index) mk (Value.ref b :: argsL).toArray X₁ hg hsize hdg hW (X₁.named hnamed) (hpre vm₁ X₁.warmed) with ⟨v, B, X', hpost, hsteps⟩ | ⟨q, B, X', hpost, hsteps⟩
  · exact Or.inl ⟨v, vm₁, B, X₁.warmed, X', hpost, fun target h => hstep₁ _ fun acts => by rw [doInvoke_state]; exact hsteps.trans h⟩
  · exact Or.inr ⟨q, vm₁, B, X₁.warmed, X', hpost, hstep₁ _ fun acts => by rw [doInvoke_state]; exact hsteps⟩
theorem vx_callSX (X : Stand p l e R s m args below meth c T locs cells slots) (hexec : p.tables.exec = Jvm.exec) {own : String} {index : Nat} {y : MethodName} {bytes : ByteArray} {maxL : Nat} {ret : Option FieldType} {hh : List (Nat × Nat × Nat × Nat)}
    (hown : s.vm.findClass own = some m.cls) (hlink : (Cond.methodLink own index y).before args s = true) (hstat : (Cond.static y).before args s = true) (hinit : (Cond.initialized y.cls).before args s = true)
    (hcode : (Cond.codeWith y bytes maxL ret hh).before args s = true) (hy : y.cls ≠ "java/lang/invoke/MethodHandle" ∧ y.cls ≠ "java/lang/invoke/VarHandle")
    {W9 : Nat} {Pre : Pt → Array Value → Prop} {Post : Pt → Array Value → Option Value → Pt → Prop} {PostX : Pt → Array Value → Addr → Pt → Prop} (hK : vx_Back l R p e below s args y 3 W9 Pre Post PostX)
    {g : JFrame} (hg : g.method = m) (hsize : g.locals.size = c.maxLocals) {argsL rest : List Value} (hlen : ∀ sig, parseMethodDescriptor y.desc = some sig → argsL.length = sig.parameters.length)
    (hstack : g.stack = argsL.reverse ++ rest) (hW : 2 * g.monitorRoom + (rest.map fun v => v.category).sum ≤ W9) (hdg : decode c.code g.pc = .ok (.invokestatic index, 3))
    (hpre : ∀ vm₁, s.WarmedH vm₁ → Pre ⟨T.setVm vm₁, locs, cells, slots⟩ argsL.toArray) :
    (∃ (v : Option Value) (vm₁ : Vm) (B : Pt), s.WarmedH vm₁ ∧ Stand p l e R s m args below meth c B.U B.locs B.cells B.slots ∧ Post ⟨T.setVm vm₁, locs, cells, slots⟩ argsL.toArray v B ∧
      ∀ target, Steps p.tables e below (B.U.setTop { g with pc := g.pc + 3, stack := v.toList ++ rest }) target → Steps p.tables e below (T.setTop g) target) ∨
    (∃ (q : Addr) (vm₁ : Vm) (B : Pt), s.WarmedH vm₁ ∧ Stand p l e R s m args below meth c B.U B.locs B.cells B.slots ∧ PostX ⟨T.setVm vm₁, locs, cells, slots⟩ argsL.toArray q B ∧
      Steps p.tables e below (T.setTop g) ((B.U.setTop { g with stack := rest }).pushFrame (.throwing q))) := by
  obtain ⟨mk, methM, cM, hnamed, hmethM, -, -, -, -, -, -, hsigM⟩ := Cond.codeWith_spec hcode
  have hstatic : methM.isStatic = true := Cond.static_spec hnamed hmethM hstat
  obtain ⟨kP, hkP, -⟩ := className_of_methodNamed hnamed
  have hinitP : kP.init = .initialized := Cond.initialized_spec (findClass_of_methodNamed hnamed) hkP hinit
  obtain ⟨vm₁, X₁, hstep₁⟩ := X.invokestatic hexec hown hlink hnamed hmethM hstatic hkP hinitP hy (g := g) hg (argsL := argsL) (rest := rest) (hlen _ hsigM) hstack hdg
  rcases hK m meth c ⟨T.setVm vm₁, locs, cells, slots⟩ { g with stack := rest } (.invokestatic index) mk argsL.toArray X₁ hg hsize hdg hW (X₁.named hnamed) (hpre vm₁ X₁.warmed) with ⟨v, B, X', hpost, hsteps⟩ | ⟨q, B, X', hpost, hsteps⟩
  · exact Or.inl ⟨v, vm₁, B, X₁.warmed, X', hpost, fun target h => hstep₁ _ fun acts => by rw [doInvoke_state]; exact hsteps.trans h⟩
  · exact Or.inr ⟨q, vm₁, B, X₁.warmed, X', hpost, hstep₁ _ fun acts => by rw [doInvoke_state]; exact hsteps⟩
theorem vx_callVW (X : Stand p l e R s m args below meth c T locs cells slots) (hexec : p.tables.exec = Jvm.exec) {own C : String} {index : Nat} {y : MethodName} {bytes : ByteArray} {maxL : Nat} {ret : Option FieldType} {hh : List (Nat × Nat × Nat × Nat)}
    (hown : s.vm.findClass own = some m.cls) (hlink : (Cond.methodLink own index y).before args s = true) (hinst : (Cond.instanceMethod y).before args s = true) (hsel : (Cond.selects C y y).before args s = true)
    (hcode : (Cond.codeWith y bytes maxL ret hh).before args s = true) (hy : y.cls ≠ "java/lang/invoke/MethodHandle" ∧ y.cls ≠ "java/lang/invoke/VarHandle")
    {W9 : Nat} {Pre : Pt → Array Value → Prop} {Post : Pt → Array Value → Option Value → Pt → Prop} (hK : Back l R p e below s args y 3 W9 Pre Post)
    {b : Addr} {cellB : Cell} (hcell : T.heap[b]? = some cellB) (hobj : cellB.vm.isStatics = false) (hcls : s.vm.findClass C = some cellB.cls)
    {g : JFrame} (hg : g.method = m) (hsize : g.locals.size = c.maxLocals) {argsL rest : List Value} (hlen : ∀ sig, parseMethodDescriptor y.desc = some sig → argsL.length = sig.parameters.length)
    (hstack : g.stack = argsL.reverse ++ .ref b :: rest) (hW : 2 * g.monitorRoom + (rest.map fun v => v.category).sum ≤ W9) (hdg : decode c.code g.pc = .ok (.invokevirtual index, 3))
    (hpre : ∀ vm₁, s.WarmedH vm₁ → Pre ⟨T.setVm vm₁, locs, cells, slots⟩ (Value.ref b :: argsL).toArray) :
    ∃ (v : Option Value) (vm₁ : Vm) (B : Pt), s.WarmedH vm₁ ∧ Stand p l e R s m args below meth c B.U B.locs B.cells B.slots ∧ Post ⟨T.setVm vm₁, locs, cells, slots⟩ (Value.ref b :: argsL).toArray v B ∧
      ∀ target, Steps p.tables e below (B.U.setTop { g with pc := g.pc + 3, stack := v.toList ++ rest }) target → Steps p.tables e below (T.setTop g) target := by
  obtain ⟨mk, methM, hnamed, hmethM, hstM, habM⟩ := Cond.instanceMethod_spec hinst
  obtain ⟨m8, methM', cM, hn8, hmethM', -, -, -, -, -, -, hsigM⟩ := Cond.codeWith_spec hcode
  cases Option.some.inj (hn8.symm.trans hnamed)
  cases hmethM.symm.trans hmethM'
  obtain ⟨c2, r2, m2, q1, q2, q3, q4, kP, hkP, hkPi⟩ := Cond.selects_spec hsel
  cases hcls.symm.trans q1
  cases (State.methodFound?_of_named hnamed hy).symm.trans q2
  cases hnamed.symm.trans q3
  have hselP : selectMethod e.platform s.vm cellB.cls mk = .method mk := by rw [Launch.admits_selectMethod X.admits]; exact q4
  obtain ⟨vm₁, X₁, hstep₁⟩ := X.invokevirtual hexec hown hlink hnamed hmethM hstM hkP hkPi hy (a := b) (cell := cellB) hcell
    (fun z h => by rw [h] at hobj; cases hobj) hselP hmethM habM hkP hkPi (g := g) hg (argsL := argsL) (rest := rest) (hlen _ hsigM) hstack hdg
  obtain ⟨v, B, X', hpost, hsteps⟩ := hK m meth c ⟨T.setVm vm₁, locs, cells, slots⟩ { g with stack := rest } (.invokevirtual index) mk (Value.ref b :: argsL).toArray X₁ hg hsize hdg hW (X₁.named hnamed) (hpre vm₁ X₁.warmed)
  exact ⟨v, vm₁, B, X₁.warmed, X', hpost, fun target h => hstep₁ _ fun acts => by rw [doInvoke_state]; exact hsteps.trans h⟩
abbrev vx_CVW (R : Room) (s : State) (args : Array Value) (own C : String) (index : Nat) (y : MethodName) (bytes : ByteArray) (maxL : Nat) (ret : Option FieldType) (hh : List (Nat × Nat × Nat × Nat)) (ws : List Cond) (rm : Room) (mc ms n : Nat) : Prop :=
  (rm.cells = mc ∧ rm.slots = ms ∧ rm.frames + 1 ≤ R.frames ∧ 8 + (maxL + 11) + rm.locals ≤ R.locals ∧ (∀ w ∈ ws, ∀ (a' : Array Value) (U : State), s.WarmedH U.vm → w.before a' U = true) ∧ Cond.codeWith y bytes maxL ret hh ∈ ws) ∧
  (Cond.codeWith y bytes maxL ret hh).before args s = true ∧ (Cond.initialized y.cls).before args s = true ∧ (y.cls ≠ "java/lang/invoke/MethodHandle" ∧ y.cls ≠ "java/lang/invoke/VarHandle") ∧
  (∀ sig, parseMethodDescriptor y.desc = some sig → n = sig.parameters.length) ∧ (Cond.methodLink own index y).before args s = true ∧ (Cond.instanceMethod y).before args s = true ∧ (Cond.selects C y y).before args s = true
theorem vx_cwVW {own C : String} {index maxL mc ms : Nat} {y : MethodName} {bytes : ByteArray} {ret : Option FieldType} {hh : List (Nat × Nat × Nat × Nat)} {Ts ws ws' : List Cond} {rm : Room} (n : Nat) (ht : ∀ w ∈ Ts, w.before args s = true) (hT : GoodIn Ts (wsV own index C y ws)) (hw : ws = Cond.codeWith y bytes maxL ret hh :: ws') (hrc : rm.cells = mc) (hrs : rm.slots = ms)
    (hd : y.cls = C ∧ y.cls ≠ "java/lang/invoke/MethodHandle" ∧ y.cls ≠ "java/lang/invoke/VarHandle" ∧ (parseMethodDescriptor y.desc).map (fun d => d.parameters.length) = some n) (hR : rm.frames + 1 ≤ R.frames ∧ 8 + (maxL + 11) + rm.locals ≤ R.locals) :
    vx_CVW R s args own C index y bytes maxL ret hh ws rm mc ms n := by
  obtain ⟨hC, hd⟩ := hd
  subst hC
  have ok : ∀ w ∈ wsV own index y.cls y ws, w.before args s = true := fun w h => ht w (hT w h).1
  have hG : GoodIn Ts ws := fun w h => hT w (by unfold wsV; exact List.mem_append_right _ h)
  have hc : Cond.codeWith y bytes maxL ret hh ∈ ws := by rw [hw]; exact List.mem_cons_self
  refine ⟨⟨hrc, hrs, hR.1, hR.2, pay_in ht hG, hc⟩, ht _ (hG _ hc).1, ok _ (by simp [wsV]), ⟨hd.1, hd.2.1⟩, fun sig h => ?_, ok _ (by simp [wsV]), ok _ (by simp [wsV]), ok _ (by simp [wsV])⟩
  have h2 := hd.2.2
  rw [h] at h2
  exact (Option.some.inj h2).symm
theorem vx_runVW {y : MethodName} {bytes cc : ByteArray} {maxL nL mc ms n index : Nat} {ret : Option FieldType} {hh : List (Nat × Nat × Nat × Nat)} {ws : List Cond} {rm : Room} {Pc : Array Value → State → Prop} {Qc : Array Value → State → Outcome → State → Prop} {free : Addr → Prop} {Ts : List Cond} {own C : String} {b : Addr} {As rest : List Value} {g : JFrame}
    (S : CallFix p m c cc nL s args Ts own) (hM : Met l y ws rm Pc Qc mc ms free) (cw : vx_CVW R s args own C index y bytes maxL ret hh ws rm mc ms n) (hp : PreV s H C b Pc As)
    (hg : g.method = m) (hn : As.length = n) (hsize : g.locals.size = nL) (hstack : g.stack = As.reverse ++ .ref b :: rest) (hW : 2 * g.monitorRoom + (rest.map fun v => v.category).sum ≤ 8) (hdg : decode cc g.pc = .ok (.invokevirtual index, 3)) (hf : cells + mc ≤ R.cells ∧ slots + ms ≤ R.slots) :
    va_Run p l e R s m args below meth c H locs cells slots mc ms g rest (Qc (Value.ref b :: As).toArray) free := by
  obtain ⟨⟨hrc, hrs, hfr, hlo, hws, hcw⟩, hcode, hini, hy, hlen, hl, hin, hse⟩ := cw
  have hK : Back l R p e below s args y 3 8 (PreOf R mc ms Pc) (PostOf Qc mc ms free) := va_backW (hh := hh) (bytes := bytes) (maxL := maxL) (ret := ret) hM hp.1 hrc hrs hfr hlo hws hcw (fun a' U hW => word_at hW (Or.inl (by first | rfl | simp [Cond.onTables, Cond.keeps, Cond.steady])) hini)
  obtain ⟨hx, hb, hml, ho, -⟩ := S
  obtain ⟨-, ⟨cellB, hcB, hoB, hclB⟩, hPc⟩ := hp
  intro T hT X
  obtain ⟨v, vm₁, ⟨U', l2, c2, s2⟩, hW₁, X', ⟨g', mk, t, L, e1, e2, hq, h1, hL, h2, h3⟩, st⟩ := vx_callVW X hx (C := C) (hh := hh) (bytes := bytes) (maxL := maxL) (ret := ret) ho hl hin hse hcode hy hK (by rw [hT]; exact hcB) hoB hclB hg (hsize.trans hml.symm) (argsL := As) (rest := rest) (fun sig h => hn.trans (hlen sig h)) hstack hW (by rw [hb]; exact hdg)
    (fun vm₁ hW₁ => ⟨hf.1, hf.2, hPc (T.setVm vm₁) hT hW₁⟩)
  dsimp only [Pt.U, Pt.locs, Pt.cells, Pt.slots] at X' e1 e2 h1 h2 h3 st
  subst h1; subst h2; subst h3
  exact ⟨v, (T.setVm vm₁).calling g' mk (Value.ref b :: As).toArray, t, U', L, hT, X', hL, e1, e2, hq, st⟩
section
variable {y : MethodName} {bytes cc : ByteArray} {maxL nL mc ms n index : Nat} {ret : Option FieldType} {ws : List Cond} {rm : Room} {Pc : Array Value → State → Prop} {Qc : Array Value → State → Outcome → State → Prop} {XC : String → State → State → Prop} {free : Addr → Prop} {Ts : List Cond} {own C : String} {b : Addr} {As rest : List Value} {g : JFrame}
theorem vx_runVX {hh : List (Nat × Nat × Nat × Nat)} (S : CallFix p m c cc nL s args Ts own) (hM : vx_Met l y ws rm Pc Qc XC mc ms free) (cw : vx_CVW R s args own C index y bytes maxL ret hh ws rm mc ms n) (hp : PreV s H C b Pc As)
    (hg : g.method = m) (hn : As.length = n) (hsize : g.locals.size = nL) (hstack : g.stack = As.reverse ++ .ref b :: rest) (hW : 2 * g.monitorRoom + (rest.map fun v => v.category).sum ≤ 8) (hdg : decode cc g.pc = .ok (.invokevirtual index, 3)) (hf : cells + mc ≤ R.cells ∧ slots + ms ≤ R.slots) :
    vx_Run p l e R s m args below meth c H locs cells slots mc ms g rest (Qc (Value.ref b :: As).toArray) XC free := by
  obtain ⟨⟨hrc, hrs, hfr, hlo, hws, hcw⟩, hcode, hini, hy, hlen, hl, hin, hse⟩ := cw
  have hK : vx_Back l R p e below s args y 3 8 (PreOf R mc ms Pc) (PostOf Qc mc ms free) (vx_Post XC mc ms free) := vx_backW (hh := hh) (bytes := bytes) (maxL := maxL) (ret := ret) hM hp.1 hrc hrs hfr hlo hws hcw (fun a' U hW => word_at hW (Or.inl (by first | rfl | simp [Cond.onTables, Cond.keeps, Cond.steady])) hini)
  obtain ⟨hx, hb, hml, ho, -⟩ := S
  obtain ⟨-, ⟨cellB, hcB, hoB, hclB⟩, hPc⟩ := hp
  intro T hT X
  rcases vx_callVX X hx (C := C) (hh := hh) (bytes := bytes) (maxL := maxL) (ret := ret) ho hl hin hse hcode hy hK (by rw [hT]; exact hcB) hoB hclB hg (hsize.trans hml.symm) (argsL := As) (rest := rest) (fun sig h => hn.trans (hlen sig h)) hstack hW (by rw [hb]; exact hdg)
    (fun vm₁ hW₁ => ⟨hf.1, hf.2, hPc (T.setVm vm₁) hT hW₁⟩) with ⟨v, vm₁, ⟨U', l2, c2, s2⟩, hW₁, X', ⟨g', mk, t, L, e1, e2, hq, h1, hL, h2, h3⟩, st⟩ | ⟨q, vm₁, ⟨U', l2, c2, s2⟩, hW₁, X', ⟨g', mk, t, L, E, ce, e1, e2, hq, hce, hcv, hcl, h1, hL, h2, h3⟩, st⟩
  · dsimp only [Pt.U, Pt.locs, Pt.cells, Pt.slots] at X' e1 e2 h1 h2 h3 st
    subst h1; subst h2; subst h3
    exact Or.inl ⟨v, (T.setVm vm₁).calling g' mk (Value.ref b :: As).toArray, t, U', L, hT, X', hL, e1, e2, hq, st⟩
  · dsimp only [Pt.U, Pt.locs, Pt.cells, Pt.slots] at X' e1 e2 h1 h2 h3 st hcl
    subst h1; subst h2; subst h3
    exact Or.inr ⟨q, (T.setVm vm₁).calling g' mk (Value.ref b :: As).toArray, t, U', L, E, ce, hT, X', hL, e1, e2, hq, hce, hcv, vx_cls hW₁ hcl, st⟩
theorem vx_runSX {hh : List (Nat × Nat × Nat × Nat)} (S : CallFix p m c cc nL s args Ts own) (hM : vx_Met l y ws rm Pc Qc XC mc ms free) (cw : vx_CSW R s args own index y bytes maxL ret hh ws rm mc ms n) (hp : PreS s H Pc As)
    (hg : g.method = m) (hn : As.length = n) (hsize : g.locals.size = nL) (hstack : g.stack = As.reverse ++ rest) (hW : 2 * g.monitorRoom + (rest.map fun v => v.category).sum ≤ 8) (hdg : decode cc g.pc = .ok (.invokestatic index, 3)) (hf : cells + mc ≤ R.cells ∧ slots + ms ≤ R.slots) :
    vx_Run p l e R s m args below meth c H locs cells slots mc ms g rest (Qc As.toArray) XC free := by
  obtain ⟨⟨hrc, hrs, hfr, hlo, hws, hcw⟩, hcode, hini, hy, hlen, hl, hstt⟩ := cw
  have hK : vx_Back l R p e below s args y 3 8 (PreOf R mc ms Pc) (PostOf Qc mc ms free) (vx_Post XC mc ms free) := vx_backW (hh := hh) (bytes := bytes) (maxL := maxL) (ret := ret) hM hp.1 hrc hrs hfr hlo hws hcw (fun a' U hW => word_at hW (Or.inl (by first | rfl | simp [Cond.onTables, Cond.keeps, Cond.steady])) hini)
  obtain ⟨hx, hb, hml, ho, -⟩ := S
  intro T hT X
  rcases vx_callSX X hx (hh := hh) (bytes := bytes) (maxL := maxL) (ret := ret) ho hl hstt hini hcode hy hK hg (hsize.trans hml.symm) (argsL := As) (rest := rest) (fun sig h => hn.trans (hlen sig h)) hstack hW (by rw [hb]; exact hdg)
    (fun vm₁ hW₁ => ⟨hf.1, hf.2, hp.2 (T.setVm vm₁) hT hW₁⟩) with ⟨v, vm₁, ⟨U', l2, c2, s2⟩, hW₁, X', ⟨g', mk, t, L, e1, e2, hq, h1, hL, h2, h3⟩, st⟩ | ⟨q, vm₁, ⟨U', l2, c2, s2⟩, hW₁, X', ⟨g', mk, t, L, E, ce, e1, e2, hq, hce, hcv, hcl, h1, hL, h2, h3⟩, st⟩
  · dsimp only [Pt.U, Pt.locs, Pt.cells, Pt.slots] at X' e1 e2 h1 h2 h3 st
    subst h1; subst h2; subst h3
    exact Or.inl ⟨v, (T.setVm vm₁).calling g' mk As.toArray, t, U', L, hT, X', hL, e1, e2, hq, st⟩
  · dsimp only [Pt.U, Pt.locs, Pt.cells, Pt.slots] at X' e1 e2 h1 h2 h3 st hcl
    subst h1; subst h2; subst h3
    exact Or.inr ⟨q, (T.setVm vm₁).calling g' mk As.toArray, t, U', L, E, ce, hT, X', hL, e1, e2, hq, hce, hcv, vx_cls hW₁ hcl, st⟩
end
end VXH
theorem vx_ofWH {l : Launch} {y : MethodName} {ws ws' : List Cond} {rm : Room} {Pc : Array Value → State → Prop} {Qc : Array Value → State → Outcome → State → Prop} {XC : String → State → State → Prop} {mc ms : Nat} {free : Addr → Prop} {cc : ByteArray} {maxL : Nat} {ret : Option FieldType} {hh : List (Nat × Nat × Nat × Nat)}
    (hy : plainName y.cls = true) (hw : ws = Cond.codeWith y cc maxL ret hh :: ws')
    (body : ∀ p e s m args below meth c s₁, BodyLoose p l y (headSpec ws rm) cc maxL ret e s m args below meth c s₁ → c.maxLocals = maxL → Pc args s →
      W p l e (headSpec ws rm).room s m args below meth c s.heap [] 0 0 (vx_MQ below Qc XC args s mc ms free) (entryFrame m args maxL)) : vx_Met l y ws rm Pc Qc XC mc ms free := by
  refine MetFree.of_bodyS (code := cc) (maxLocals := maxL) (ret := ret) hy ?_ ?_
  · intro args s m h hn
    obtain ⟨m9, meth, c, hn9, h1, h2, h3, h4, -, h5, h6, -⟩ := Cond.codeWith_spec (atoms_spec (ws := ws) h _ (by rw [hw]; exact List.mem_cons_self))
    cases hn.symm.trans hn9
    exact ⟨meth, c, h1, h2, h3, h4, h5, h6⟩
  · intro p e s m args below meth c s₁ B hml hP _
    have hh0 : s₁.heap = s.heap := by rw [B.state]; rfl
    obtain ⟨t, a1, o, b1, b2, b3⟩ := body p e s m args below meth c s₁ B hml hP s₁ hh0 (Stand.of_body B)
    exact ⟨t, o, a1, b1, b2, b3⟩
/-! ===== END ===== -/
end
section
section XSU
set_option maxHeartbeats 4000000 in
set_option maxRecDepth 100000 in
/-- A CALL, ON THE MACHINE: behind it goes on whatever is known of the state there -/
theorem xe_call_ok {M : Nat → Option xm_M} {Cd : Nat → Nat → Option xr_R} {f : Nat} (hP : xP_ok M Cd) (hf : xS_ok M Cd f) {p : Program} {l : Launch} {e : Env} {R : Room} {s : State} {m : MethodId} {args : Array Value} {below : List Frame} {meth : Method} {c : Code} {H : Heap} {locs : List Loc} {Q : State → Prop} {ls : Array Slot} {D : va_G} {A : Nat → Prop} {ad sp : Nat → Nat} {cy : Nat → ClassId} {mi : xm_M} {pc d' : Nat} {lv : List (Nat × Value)} {st : List Value} {h : xh_H} {cells slots : Nat} {r : xr_R} {mj : xm_M} {As q : List Value} {v1 : Option Value} {h1 : xh_H} {mc ms : Nat}
    (hrb : xr_b mi.1 (xm_ini mi) mi.2.2.1 pc r = true) (hrc : xr_c M mi.1 r = true) (hcl : xe_cl M r st h = some (mj, As, q)) (hx1 : xe_x M Cd none f d' r.2.2.1 mj (0, lv_args 0 As, [], h, 0, 0) = some (v1, h1, mc, ms)) (X : xc_X p s m args meth c mi.2.2.1 mi.2.2.2.1 mi.1 (xm_ini mi) D cy A sp) (hR : d' + 1 ≤ R.frames ∧ 40 * (d' + 1) ≤ R.locals) (hcap0 : cells + mc ≤ R.cells ∧ slots + ms ≤ R.slots) (S : xc_S D cy ad sp A s mi.2.2.2.1 h lv H locs ls)
    (kk : ∀ (H1 : Heap) (locs1 : List Loc), xc_S D cy ad sp A s mi.2.2.2.1 h1 lv H1 locs1 ls → W p l e R s m args below meth c H1 locs1 (cells + mc) (slots + ms) Q (F0 m (pc + 3) ls ((v1.toList ++ q).map (xh_v ad sp)))) :
    W p l e R s m args below meth c H locs cells slots Q (F0 m pc ls (st.map (xh_v ad sp))) := by
  have X0 := X
  obtain ⟨hx, hb, hml, hown, hts, hK, hA, hO, hini⟩ := X
  obtain ⟨hat, hS, hl⟩ := S
  have hfree := xq_free hat hS hA
  have go : ∀ (H1 : Heap) (locs1 : List Loc), xh_at D cy ad A h1 H1 → va_S A s.heap H1 locs1 → W p l e R s m args below meth c H1 locs1 (cells + mc) (slots + ms) Q (F0 m (pc + 3) ls ((v1.map (xh_v ad sp)).toList ++ q.map (xh_v ad sp))) := by
    intro H1 locs1 a1 a2
    have K := kk H1 locs1 ⟨a1, a2, hl⟩
    rw [List.map_append] at K
    cases v1 with
    | none => exact K
    | some w => exact K
  have hcap : cells + mc ≤ R.cells ∧ slots + ms ≤ R.slots := hcap0
  unfold xe_cl at hcl
  split at hcl
  · cases hcl
  · rename_i mk hmk
    have hk3 : mk.2.2.2.2.2.1 ≠ 3 := by
      intro z
      rw [z] at hcl
      split at hcl
      · obtain ⟨_, z2⟩ := xw_bb (xw_c hcl).1
        cases (xw_bb z2).1
      · split at hcl
        · split at hcl
          · obtain ⟨_, z2⟩ := xw_bb (xw_c hcl).1
            cases (xw_bb z2).1
          · cases hcl
        · cases hcl
      · split at hcl
        · obtain ⟨_, z2⟩ := xw_bb (xw_c hcl).1
          cases (xw_bb z2).1
        · cases hcl
      · cases hcl
    have hok' := (hP.1 _ _ hmk).1 hk3
    have hgi := xG_in hok'
    have hok2 := hok'
    obtain ⟨j1, j2, j3, j4, j5, j6, j7, j8, j9⟩ := hok'
    have hRm : ∀ mc ms : Nat, (xm_rm d' mc ms).frames + 1 ≤ R.frames ∧ 8 + (mk.2.2.2.1 + 11) + (xm_rm d' mc ms).locals ≤ R.locals := by
      intro mc ms
      have a1 := hR.1
      have a2 := hR.2
      refine ⟨a1, ?_⟩
      show 8 + (mk.2.2.2.1 + 11) + 40 * d' ≤ R.locals
      omega
    split at hcl
    · rename_i idx hi1
      obtain ⟨b1, b2⟩ := xw_c hcl
      cases b2
      obtain ⟨b0, b1⟩ := xw_bb b1
      obtain ⟨b1, b3⟩ := xw_bb b1
      obtain ⟨b3, b4⟩ := xw_bb b3
      obtain ⟨b4, b5⟩ := xw_bb b4
      replace b0 := xw_beq b0
      replace b1 := xw_beq b1
      replace b3 := xw_beq b3
      replace b4 := xw_ble b4
      replace b5 := xw_ble b5
      have hlk : Cond.methodLink mi.1 idx mj.2.1 ∈ xG := by
        unfold xr_c at hrc
        rw [hi1] at hrc
        dsimp only at hrc
        rw [b0] at hrc
        try dsimp only at hrc
        rw [hmk] at hrc
        exact xw_in hrc
      have hd := xr_len3 hrb (by rw [hi1]; rfl) (by rw [hi1]; intro a b d e z; cases z)
      rw [hi1] at hd
      have hM := xe_met (D := D) (cy := cy) (ad := ad) (sp := sp) hP hf hx1 hmk hok2 b5 l H.size
      have hst : st.map (xh_v ad sp) = ((st.take mj.2.2.2.2.2.2.1).reverse.map (xh_v ad sp)).reverse ++ (st.drop mj.2.2.2.2.2.2.1).map (xh_v ad sp) := by
        rw [← List.map_reverse, List.reverse_reverse, ← List.map_append, List.take_append_drop]
      refine xa_call (va_runS (As := (st.take mj.2.2.2.2.2.2.1).reverse.map (xh_v ad sp)) ⟨hx, hb, hml, hown, hts⟩ hM ⟨callB_of mj.2.2.2.2.2.2.1 hts hgi rfl rfl rfl (hts _ j2) (hts _ hlk) j5 (hRm mc ms), hts _ (j8 b1)⟩ ⟨xq_blind _ _ _, xq_pre X0 hat hS⟩ rfl (by rw [List.length_map, List.length_reverse]; exact b3) hl.1 hst (lv_room ?_) hd hcap) hS hfree go
      show xm_cat ((st.drop mj.2.2.2.2.2.2.1).map (xh_v ad sp)) ≤ 8
      rw [xm_cat_m]
      exact b4
    · rename_i idx hi1
      split at hcl
      · rename_i bb q2 hdrop
        split at hcl
        · rename_i ci hci
          obtain ⟨b1, b2⟩ := xw_c hcl
          cases b2
          obtain ⟨b0, b1⟩ := xw_bb b1
          obtain ⟨b1, b3⟩ := xw_bb b1
          obtain ⟨b3, b4⟩ := xw_bb b3
          obtain ⟨b4, b5⟩ := xw_bb b4
          replace b0 := xw_beq b0
          replace b1 := xw_beq b1
          replace b3 := xw_beq b3
          replace b4 := xw_ble b4
          replace b5 := xw_ble b5
          have hlk : Cond.methodLink mi.1 idx mj.2.1 ∈ xG := by
            unfold xr_c at hrc
            rw [hi1] at hrc
            dsimp only at hrc
            split at hrc
            · rw [hmk] at hrc
              cases (xw_bb hrc).2
            · rw [hmk] at hrc
              cases (xw_bb hrc).2
            · rw [hmk] at hrc
              exact xw_in hrc
          have hd := xr_len3 hrb (by rw [hi1]; rfl) (by rw [hi1]; intro a b d e z; cases z)
          rw [hi1] at hd
          have hM := xe_met (D := D) (cy := cy) (ad := ad) (sp := sp) hP hf hx1 hmk hok2 b5 l H.size
          have hst : st.map (xh_v ad sp) = ((st.take mj.2.2.2.2.2.2.1).reverse.map (xh_v ad sp)).reverse ++ .ref (ad bb) :: q.map (xh_v ad sp) := by
            rw [← List.map_reverse, List.reverse_reverse]
            have : st = st.take mj.2.2.2.2.2.2.1 ++ .ref bb :: q := by rw [← hdrop, List.take_append_drop]
            conv => lhs; rw [this]
            rw [List.map_append]
            rfl
          obtain ⟨T, N, hv⟩ := (j7 b1).2.2
          rw [← b0] at hv
          refine xa_call (va_runV (C := mj.2.1.cls) (b := ad bb) (As := (st.take mj.2.2.2.2.2.2.1).reverse.map (xh_v ad sp)) ⟨hx, hb, hml, hown, hts⟩ hM ⟨callB_of mj.2.2.2.2.2.2.1 hts hgi rfl rfl rfl (hts _ j2) (hts _ hlk) j5 (hRm mc ms), hts _ (j7 b1).1, hts _ (j7 b1).2.1⟩ ⟨xq_blind _ _ _, va_recv hK hat.1 hv (xh_ws_at hci), xq_pre X0 hat hS⟩ rfl (by rw [List.length_map, List.length_reverse]; exact b3) hl.1 hst (lv_room ?_) hd hcap) hS hfree go
          show xm_cat (q.map (xh_v ad sp)) ≤ 8
          rw [xm_cat_m]
          exact b4
        · cases hcl
      · cases hcl
    · rename_i idx hi1
      split at hcl
      · rename_i bb q2 hdrop
        obtain ⟨b1, b2⟩ := xw_c hcl
        cases b2
        obtain ⟨b0, b1⟩ := xw_bb b1
        obtain ⟨b1, b3⟩ := xw_bb b1
        obtain ⟨b3, b4⟩ := xw_bb b3
        obtain ⟨b4, b5⟩ := xw_bb b4
        replace b0 := xw_beq b0
        replace b1 := xw_beq b1
        replace b3 := xw_beq b3
        replace b4 := xw_ble b4
        replace b5 := xw_ble b5
        have hlk : Cond.methodLink mi.1 idx mj.2.1 ∈ xG := by
          unfold xr_c at hrc
          rw [hi1] at hrc
          dsimp only at hrc
          rw [b0] at hrc
          try dsimp only at hrc
          rw [hmk] at hrc
          exact xw_in hrc
        have hd := xr_len3 hrb (by rw [hi1]; rfl) (by rw [hi1]; intro a b d e z; cases z)
        rw [hi1] at hd
        have hM := xe_met (D := D) (cy := cy) (ad := ad) (sp := sp) hP hf hx1 hmk hok2 b5 l H.size
        have hst : st.map (xh_v ad sp) = ((st.take mj.2.2.2.2.2.2.1).reverse.map (xh_v ad sp)).reverse ++ .ref (ad bb) :: q.map (xh_v ad sp) := by
          rw [← List.map_reverse, List.reverse_reverse]
          have : st = st.take mj.2.2.2.2.2.2.1 ++ .ref bb :: q := by rw [← hdrop, List.take_append_drop]
          conv => lhs; rw [this]
          rw [List.map_append]
          rfl
        obtain ⟨n1, n2, n3⟩ := j9 b1
        unfold xq_M at hM
        rw [n3] at hM hgi
        have hpre : PreS s H (va_Pc ((.ref bb :: (st.take mj.2.2.2.2.2.2.1).reverse).map (xh_v ad sp)) (xq_P D cy ad sp h H.size)) (.ref (ad bb) :: (st.take mj.2.2.2.2.2.2.1).reverse.map (xh_v ad sp)) := ⟨xq_blind _ _ _, xq_pre X0 hat hS⟩
        refine xa_call (va_runI (b := ad bb) (As := (st.take mj.2.2.2.2.2.2.1).reverse.map (xh_v ad sp)) ⟨hx, hb, hml, hown, hts⟩ hM ⟨callB_of mj.2.2.2.2.2.2.1 hts hgi rfl rfl rfl (hts _ j2) (hts _ hlk) j5 (hRm mc ms), n2, hts _ n1⟩ hpre rfl (by rw [List.length_map, List.length_reverse]; exact b3) hl.1 hst (lv_room ?_) hd hcap) hS hfree go
        show xm_cat (q.map (xh_v ad sp)) ≤ 8
        rw [xm_cat_m]
        exact b4
      · cases hcl
    · cases hcl
end XSU
end
section
section XSV
theorem xe_u_mono {M : Nat → Option xm_M} {Cd : Nat → Nat → Option xr_R} {scr : Option (Nat × (Nat → Int32))} {stop mid : Nat} {mi : xm_M} : ∀ (f d : Nat) (pc : Nat) (lv : List (Nat × Value)) (st : List Value) (h : xh_H) (c s : Nat) (pc' : Nat) (lv' : List (Nat × Value)) (st' : List Value) (h' : xh_H) (c' s' : Nat), xe_u M Cd scr stop f d mid mi (pc, lv, st, h, c, s) = some (pc', lv', st', h', c', s') → c ≤ c' ∧ s ≤ s' := by
  intro f
  induction f with
  | zero => intro d pc lv st h c s pc' lv' st' h' c' s' he; cases he
  | succ f ih =>
    intro d pc lv st h c s pc' lv' st' h' c' s' he
    unfold xe_u at he
    cases hb : Nat.beq pc stop with
    | true => rw [hb] at he; cases he; exact ⟨Nat.le_refl _, Nat.le_refl _⟩
    | false =>
      rw [hb] at he
      simp only [cond_false] at he
      split at he
      · cases he
      · rename_i r hr
        cases hi : xe_isr r.1 with
        | true => rw [hi] at he; cases he
        | false =>
          rw [hi] at he
          simp only [cond_false] at he
          split at he
          · rename_i o ho
            obtain ⟨pc1, lv1, st1, h1, c1, s1⟩ := o
            have a := xe_2_mono ho
            have b := ih _ _ _ _ _ _ _ _ _ _ _ _ _ he
            exact ⟨Nat.le_trans a.1 b.1, Nat.le_trans a.2 b.2⟩
          · split at he
            · cases he
            · split at he
              · cases he
              · split at he
                · cases he
                · have b := ih _ _ _ _ _ _ _ _ _ _ _ _ _ he
                  exact ⟨Nat.le_trans (Nat.le_add_right _ _) b.1, Nat.le_trans (Nat.le_add_right _ _) b.2⟩
set_option maxHeartbeats 4000000 in
/-- A RUN UP TO A PLACE, ON THE MACHINE -/
theorem xS_u {M : Nat → Option xm_M} {Cd : Nat → Nat → Option xr_R} (hP : xP_ok M Cd) {scr : Option (Nat × (Nat → Int32))} {stop mid : Nat} {mi : xm_M} (hm : M mid = some mi) {p : Program} {l : Launch} {e : Env} {R : Room} {s : State} {m : MethodId} {args : Array Value} {below : List Frame} {meth : Method} {c : Code} {Q : State → Prop} {D : va_G} {A : Nat → Prop} {ad sp : Nat → Nat} {cy : Nat → ClassId} (X : xc_X p s m args meth c mi.2.2.1 mi.2.2.2.1 mi.1 (xm_ini mi) D cy A sp) (hscr : ∀ L xs, scr = some (L, xs) → va_X (sp 0) L xs s s.heap ∧ sp 0 < s.heap.size ∧ ¬ A (sp 0)) : ∀ (f d : Nat) (pc : Nat) (lv : List (Nat × Value)) (st : List Value) (h : xh_H) (cells slots : Nat) (pc' : Nat) (lv' : List (Nat × Value)) (st' : List Value) (h' : xh_H) (c' s' : Nat) (H : Heap) (locs : List Loc) (ls : Array Slot), xe_u M Cd scr stop f d mid mi (pc, lv, st, h, cells, slots) = some (pc', lv', st', h', c', s') → (d ≤ R.frames ∧ 40 * d ≤ R.locals ∧ c' ≤ R.cells ∧ s' ≤ R.slots) → xc_S D cy ad sp A s mi.2.2.2.1 h lv H locs ls →
    (∀ (H1 : Heap) (locs1 : List Loc) (ls1 : Array Slot), xc_S D cy ad sp A s mi.2.2.2.1 h' lv' H1 locs1 ls1 → W p l e R s m args below meth c H1 locs1 c' s' Q (F0 m pc' ls1 (st'.map (xh_v ad sp)))) →
    W p l e R s m args below meth c H locs cells slots Q (F0 m pc ls (st.map (xh_v ad sp))) := by
  intro f
  induction f with
  | zero => intro d pc lv st h cells slots pc' lv' st' h' c' s' H locs ls he; cases he
  | succ f ih =>
    intro d pc lv st h cells slots pc' lv' st' h' c' s' H locs ls he hR S kk
    unfold xe_u at he
    cases hb : Nat.beq pc stop with
    | true => rw [hb] at he; cases he; exact kk _ _ _ S
    | false =>
      rw [hb] at he
      simp only [cond_false] at he
      split at he
      · cases he
      · rename_i r hr
        obtain ⟨hrb, hrc⟩ := (hP.1 mid mi hm).2 pc r hr
        cases hi : xe_isr r.1 with
        | true => rw [hi] at he; cases he
        | false =>
          rw [hi] at he
          simp only [cond_false] at he
          split at he
          · rename_i o ho
            obtain ⟨pc1, lv1, st1, h1, c1, s1⟩ := o
            have hmn := xe_u_mono _ _ _ _ _ _ _ _ _ _ _ _ _ _ he
            refine xe_2_ok hP.2 X hrb hrc ho ⟨hR.1, hR.2.1⟩ ⟨Nat.le_trans hmn.1 hR.2.2.1, Nat.le_trans hmn.2 hR.2.2.2⟩ hscr S ?_
            intro H1 locs1 ls1 S1
            exact ih _ _ _ _ _ _ _ _ _ _ _ _ _ _ _ _ he hR S1 kk
          · split at he
            · cases he
            · rename_i d' hx0
              split at he
              · cases he
              · rename_i mj As q hcl
                split at he
                · cases he
                · rename_i v1 h1 mc ms hx1
                  have hmn := xe_u_mono _ _ _ _ _ _ _ _ _ _ _ _ _ _ he
                  refine xe_call_ok hP (xS_all hP f) hrb hrc hcl hx1 X ⟨hR.1, hR.2.1⟩ ⟨Nat.le_trans hmn.1 hR.2.2.1, Nat.le_trans hmn.2 hR.2.2.2⟩ S ?_
                  intro H1 locs1 S1
                  exact ih _ _ _ _ _ _ _ _ _ _ _ _ _ _ _ _ he hR S1 kk
end XSV
end
section
section XLL
/-- a run up to a place, step by step -/
def xV (scr : Option (Nat × (Nat → Int32))) (stop d mid : Nat) (mi : xm_M) (S o : xs_S) : Prop := ∃ f : Nat, xe_u xM xC scr stop f d mid mi S = some o
theorem xe_u_more {M : Nat → Option xm_M} {Cd : Nat → Nat → Option xr_R} {stop : Nat} : ∀ (f : Nat) (scr : Option (Nat × (Nat → Int32))) (d mid : Nat) (mi : xm_M) (st : xs_S) (o : xs_S), xe_u M Cd scr stop f d mid mi st = some o → xe_u M Cd scr stop (f + 1) d mid mi st = some o := by
  intro f
  induction f with
  | zero => intro scr d mid mi st o he; cases he
  | succ f ih =>
    intro scr d mid mi st o he
    obtain ⟨pc, lv, st, h, c, s⟩ := st
    unfold xe_u at he ⊢
    cases hb : Nat.beq pc stop with
    | true => rw [hb] at he; exact he
    | false =>
      rw [hb] at he
      simp only [cond_false] at he ⊢
      cases hr : Cd mid pc with
      | none => rw [hr] at he; cases he
      | some r =>
        rw [hr] at he
        dsimp only at he ⊢
        cases hi : xe_isr r.1 with
        | true => rw [hi] at he; cases he
        | false =>
          rw [hi] at he
          simp only [cond_false] at he ⊢
          cases h2 : xe_2 scr mi.2.2.2.1 r d pc lv st h c s with
          | some o1 =>
            rw [h2] at he
            exact ih _ _ _ _ _ _ he
          | none =>
            rw [h2] at he
            dsimp only at he ⊢
            cases d with
            | zero => cases he
            | succ d' =>
              dsimp only at he ⊢
              cases hcl : xe_cl M r st h with
              | none => rw [hcl] at he; cases he
              | some t =>
                obtain ⟨mj, As, q⟩ := t
                rw [hcl] at he
                dsimp only at he ⊢
                cases hx : xe_x M Cd none f d' r.2.2.1 mj (0, lv_args 0 As, [], h, 0, 0) with
                | none => rw [hx] at he; cases he
                | some t =>
                  obtain ⟨v, h', mc, ms⟩ := t
                  rw [hx] at he
                  rw [xe_x_more _ _ _ _ _ _ _ hx]
                  exact ih _ _ _ _ _ _ he
theorem xe_u_le {M : Nat → Option xm_M} {Cd : Nat → Nat → Option xr_R} {stop f g : Nat} (hfg : f ≤ g) {scr : Option (Nat × (Nat → Int32))} {d mid : Nat} {mi : xm_M} {st : xs_S} {o : xs_S} (h : xe_u M Cd scr stop f d mid mi st = some o) : xe_u M Cd scr stop g d mid mi st = some o := by
  induction hfg with
  | refl => exact h
  | step _ ih => exact xe_u_more _ _ _ _ _ _ _ ih
section
variable {scr : Option (Nat × (Nat → Int32))} {stop d mid : Nat} {mi : xm_M} {pc : Nat} {lv : List (Nat × Value)} {st q : List Value} {h : xh_H} {c s : Nat} {o : xs_S} {r : xr_R}
theorem xV_stop : xV scr stop d mid mi (stop, lv, st, h, c, s) (stop, lv, st, h, c, s) := by
  refine ⟨1, ?_⟩
  unfold xe_u
  rw [Nat.beq_refl]
  rfl
theorem xV_step {o1 : xs_S} (hb : Nat.beq pc stop = false) (hr : xC mid pc = some r) (hi : xe_isr r.1 = false) (h2 : xe_2 scr mi.2.2.2.1 r d pc lv st h c s = some o1) (k : xV scr stop d mid mi o1 o) : xV scr stop d mid mi (pc, lv, st, h, c, s) o := by
  obtain ⟨f, hf⟩ := k
  refine ⟨f + 1, ?_⟩
  unfold xe_u
  rw [hb, hr]
  dsimp only
  rw [hi]
  simp only [cond_false]
  rw [h2]
  exact hf
theorem xV_call {mj : xm_M} {As q : List Value} {v : Option Value} {h' : xh_H} {mc ms : Nat} (hb : Nat.beq pc stop = false) (hr : xC mid pc = some r) (hi : xe_isr r.1 = false) (h2 : xe_2 scr mi.2.2.2.1 r (d + 1) pc lv st h c s = none) (hcl : xe_cl xM r st h = some (mj, As, q)) (hm : xR none d r.2.2.1 mj (0, lv_args 0 As, [], h, 0, 0) (v, h', mc, ms)) (k : xV scr stop (d + 1) mid mi (pc + 3, lv, v.toList ++ q, h', c + mc, s + ms) o) : xV scr stop (d + 1) mid mi (pc, lv, st, h, c, s) o := by
  obtain ⟨f1, hf1⟩ := hm
  obtain ⟨f2, hf2⟩ := k
  refine ⟨(f1 + f2) + 1, ?_⟩
  unfold xe_u
  rw [hb, hr]
  dsimp only
  rw [hi]
  simp only [cond_false]
  rw [h2]
  dsimp only
  rw [hcl]
  dsimp only
  rw [xe_x_le (Nat.le_add_right f1 f2) hf1]
  exact xe_u_le (Nat.le_add_left f2 f1) hf2
theorem xV_if (b : Bool) {k : ClassFile.Cond} {off : Int} {tgt b0 K i : Nat} {x : Int32} (hb : Nat.beq pc stop = false) (hr : xC mid pc = some (.ifCond k off, 3, tgt, b0, K, i)) (hx : xe_c k x 0 = b) (kk : xV scr stop d mid mi (cond b tgt (pc + 3), lv, q, h, c, s) o) : xV scr stop d mid mi (pc, lv, .int x :: q, h, c, s) o := by
  cases b with
  | true => exact xV_step hb hr rfl (by simp [xe_2, xe_1, xp_i, hx]) kk
  | false => exact xV_step hb hr rfl (by simp [xe_2, xe_1, xp_i, hx]) kk
theorem xV_ic (b : Bool) {k : ClassFile.Cond} {off : Int} {tgt b0 K i : Nat} {x y : Int32} (hb : Nat.beq pc stop = false) (hr : xC mid pc = some (.if_icmp k off, 3, tgt, b0, K, i)) (hx : xe_c k x y = b) (kk : xV scr stop d mid mi (cond b tgt (pc + 3), lv, q, h, c, s) o) : xV scr stop d mid mi (pc, lv, .int y :: .int x :: q, h, c, s) o := by
  cases b with
  | true => exact xV_step hb hr rfl (by simp [xe_2, xe_1, xp_ii, hx]) kk
  | false => exact xV_step hb hr rfl (by simp [xe_2, xe_1, xp_ii, hx]) kk
end
/-- a number that class and reference have in common -/
def rb (h : xh_H) (c k c' k' N : Nat) : Prop := ∃ m, m ≤ N ∧ xg 0 h.2.1 c k = nI m ∧ xg 0 h.2.1 c' k' = nI m
theorem rb_r {md : List (Nat × Nat)} {h h' : xh_H} {c k c' k' N : Nat} (f : a_fr md h h') (z : a_fz c = true) (z' : a_fz c' = true) (m : a_mb md c k = false) (m' : a_mb md c' k' = false) (r : rb h c k c' k' N) : rb h' c k c' k' N := by
  obtain ⟨n, l, e, e'⟩ := r
  exact ⟨n, l, (fr_g f z m).trans e, (fr_g f z' m').trans e'⟩
theorem rb_2 {md1 md2 : List (Nat × Nat)} {h h1 h2 : xh_H} {c k c' k' N : Nat} (f1 : a_fr md1 h h1) (f2 : a_fr md2 h1 h2) (z : a_fz c = true) (z' : a_fz c' = true) (m : a_mb md1 c k = false) (m' : a_mb md1 c' k' = false) (n : a_mb md2 c k = false) (n' : a_mb md2 c' k' = false) (r : rb h c k c' k' N) : rb h2 c k c' k' N := rb_r f2 z z' n n' (rb_r f1 z z' m m' r)
theorem pr_2 {md1 md2 : List (Nat × Nat)} {h h1 h2 : xh_H} {c k c' k' : Nat} (f1 : a_fr md1 h h1) (f2 : a_fr md2 h1 h2) (z : a_fz c = true) (z' : a_fz c' = true) (m : a_mb md1 c k = false) (m' : a_mb md1 c' k' = false) (n : a_mb md2 c k = false) (n' : a_mb md2 c' k' = false) (r : xg 0 h.2.1 c k = xg 0 h.2.1 c' k') : xg 0 h2.2.1 c k = xg 0 h2.2.1 c' k' := by
  rw [fr_g f2 z n, fr_g f1 z m, fr_g f2 z' n', fr_g f1 z' m']
  exact r
theorem tpe_r {md : List (Nat × Nat)} {h h' : xh_H} {t : Nat} (f : a_fr md h h') (m1 : a_mb md 1 1 = false) (m2 : ∀ k, a_mb md 2 k = false) (m3 : a_mb md 39 2 = false) (m4 : ∀ k, a_mb md 40 k = false) (r : tpe h t) : tpe h' t := ⟨(fr_g f rfl m1).trans r.1, (fr_g f rfl m3).trans r.2.1, r.2.2.1, fun k hk' => by rw [fr_g (c := 2) (k := k) f rfl (m2 k), fr_g (c := 40) (k := k) f rfl (m4 k)]; exact r.2.2.2 k hk'⟩
theorem tp_2 {md1 md2 : List (Nat × Nat)} {h h1 h2 : xh_H} (f1 : a_fr md1 h h1) (f2 : a_fr md2 h1 h2) (m1 : a_mb md1 1 1 = false) (m2 : ∀ k, a_mb md1 2 k = false) (m3 : a_mb md1 39 2 = false) (m4 : ∀ k, a_mb md1 40 k = false) (n1 : a_mb md2 1 1 = false) (n2 : ∀ k, a_mb md2 2 k = false) (n3 : a_mb md2 39 2 = false) (n4 : ∀ k, a_mb md2 40 k = false) (r : ∃ t, tpe h t) : ∃ t, tpe h2 t := by
  obtain ⟨t, tp⟩ := r
  exact ⟨t, tpe_r f2 n1 n2 n3 n4 (tpe_r f1 m1 m2 m3 m4 tp)⟩
/-- the votes that both have seen -/
def chr_ (h : xh_H) : Prop := ∀ k, k < 60 → xg 0 h.2.1 36 k = xg 0 h.2.1 68 k ∧ xg 0 h.2.1 37 k = xg 0 h.2.1 69 k ∧ xg 0 h.2.1 38 k = xg 0 h.2.1 70 k
/-- the members' orders that both have -/
def plr (h : xh_H) : Prop := ∀ k, k < 84 → xg 0 h.2.1 30 k = xg 0 h.2.1 62 k
def plM (md : List (Nat × Nat)) : Bool := !a_mb md 30 0 && !a_mb md 62 0
theorem pl_r {md : List (Nat × Nat)} {h h' : xh_H} (f : a_fr md h h') (m : plM md = true) (r : plr h) : plr h' := fun k hk' => by
  unfold plM at m
  simp only [Bool.and_eq_true, Bool.not_eq_true'] at m
  rw [fr_g (c := 30) (k := k) f rfl m.1, fr_g (c := 62) (k := k) f rfl m.2]
  exact r k hk'
theorem pl_2 {md1 md2 : List (Nat × Nat)} {h h1 h2 : xh_H} (f1 : a_fr md1 h h1) (f2 : a_fr md2 h1 h2) (m1 : plM md1 = true) (m2 : plM md2 = true) (r : plr h) : plr h2 := pl_r f2 m2 (pl_r f1 m1 r)
def chM (md : List (Nat × Nat)) : Bool := !a_mb md 36 0 && (!a_mb md 37 0 && (!a_mb md 38 0 && (!a_mb md 68 0 && (!a_mb md 69 0 && !a_mb md 70 0))))
theorem ch_g {md : List (Nat × Nat)} {h h' : xh_H} (f : a_fr md h h') (m : chM md = true) (k : Nat) : xg 0 h'.2.1 36 k = xg 0 h.2.1 36 k ∧ xg 0 h'.2.1 37 k = xg 0 h.2.1 37 k ∧ xg 0 h'.2.1 38 k = xg 0 h.2.1 38 k ∧ xg 0 h'.2.1 68 k = xg 0 h.2.1 68 k ∧ xg 0 h'.2.1 69 k = xg 0 h.2.1 69 k ∧ xg 0 h'.2.1 70 k = xg 0 h.2.1 70 k := by
  unfold chM at m
  simp only [Bool.and_eq_true, Bool.not_eq_true'] at m
  obtain ⟨m1, m2, m3, m4, m5, m6⟩ := m
  exact ⟨fr_g (c := 36) (k := k) f rfl m1, fr_g (c := 37) (k := k) f rfl m2, fr_g (c := 38) (k := k) f rfl m3, fr_g (c := 68) (k := k) f rfl m4, fr_g (c := 69) (k := k) f rfl m5, fr_g (c := 70) (k := k) f rfl m6⟩
theorem ch_r {md : List (Nat × Nat)} {h h' : xh_H} (f : a_fr md h h') (m : chM md = true) (r : chr_ h) : chr_ h' := fun k hk' => by
  obtain ⟨a, b, c, d, e, g⟩ := ch_g f m k
  rw [a, b, c, d, e, g]
  exact r k hk'
theorem ch_2 {md1 md2 : List (Nat × Nat)} {h h1 h2 : xh_H} (f1 : a_fr md1 h h1) (f2 : a_fr md2 h1 h2) (m1 : chM md1 = true) (m2 : chM md2 = true) (r : chr_ h) : chr_ h2 := ch_r f2 m2 (ch_r f1 m1 r)
def rwM (md : List (Nat × Nat)) : Bool := !a_mb md 29 0 && (!a_mb md 67 0 && !a_mb md 39 59)
theorem rw_t {md : List (Nat × Nat)} {h h' : xh_H} (f : a_fr md h h') (m : rwM md = true) (r : rwR h) : rwR h' := by
  unfold rwM at m
  simp only [Bool.and_eq_true, Bool.not_eq_true'] at m
  rcases r with ⟨a, b⟩ | ⟨a, b⟩
  · exact Or.inl ⟨(fr_g (c := 39) (k := 59) f rfl m.2.2).trans a, fun j hj => (fr_g (c := 29) (k := j) f rfl m.1).trans (b j hj)⟩
  · exact Or.inr ⟨(fr_g (c := 39) (k := 59) f rfl m.2.2).trans a, fun j hj => (fr_g (c := 29) (k := j) f rfl m.1).trans ((b j hj).trans (fr_g (c := 67) (k := j) f rfl m.2.1).symm)⟩
theorem rw_2 {md1 md2 : List (Nat × Nat)} {h h1 h2 : xh_H} (f1 : a_fr md1 h h1) (f2 : a_fr md2 h1 h2) (m1 : rwM md1 = true) (m2 : rwM md2 = true) (r : rwR h) : rwR h2 := rw_t f2 m2 (rw_t f1 m1 r)
theorem rw_s {h h2 : xh_H} (r : rwR h) (a : xg 0 h2.2.1 39 59 = xg 0 h.2.1 39 59) (b : ∀ j, xg 0 h2.2.1 29 j = xg 0 h.2.1 29 j) (c : ∀ j, xg 0 h2.2.1 67 j = xg 0 h.2.1 67 j) : rwR h2 := by
  rcases r with ⟨r1, r2⟩ | ⟨r1, r2⟩
  · exact Or.inl ⟨a.trans r1, fun j hj => (b j).trans (r2 j hj)⟩
  · exact Or.inr ⟨a.trans r1, fun j hj => (b j).trans ((r2 j hj).trans (c j).symm)⟩
noncomputable def rwVal (B : Nat → Nat → Bool) (x : Int32) : Int32 := cond (!xe_c .lt x 0 && !xe_c .ge x 7) (nI (rCn B x.toInt.toNat)) (Int32.ofInt (-1))
/-- both rows leave the first row alike -/
theorem rw_go {B : Nat → Nat → Bool} {x : Int32} {h h1 h2 : xh_H} {v1 v2 : Option Value} (r : rwR h) (g59 : xg 0 h1.2.1 39 59 = xg 0 h.2.1 39 59) (g67 : ∀ k, xg 0 h1.2.1 67 k = xg 0 h.2.1 67 k) (g29 : ∀ k, xg 0 h2.2.1 29 k = xg 0 h1.2.1 29 k) (a1 : ((!xe_c .lt x 0 && !xe_c .ge x 7) = false → v1 = some (.int (Int32.ofInt (-1))) ∧ ∀ j, xg 0 h1.2.1 29 j = xg 0 h.2.1 29 j) ∧ ((!xe_c .lt x 0 && !xe_c .ge x 7) = true → v1 = some (.int (nI (rCn B x.toInt.toNat))) ∧ (rFs B x.toInt.toNat = none → ∀ j, xg 0 h1.2.1 29 j = xg 0 h.2.1 29 j) ∧ ∀ l0, rFs B x.toInt.toNat = some l0 → ∀ j, j < 7 → xg 0 h1.2.1 29 j = nI (atL l0 j))) (a2 : ((!xe_c .lt x 0 && !xe_c .ge x 7) = false → v2 = some (.int (Int32.ofInt (-1))) ∧ xg 0 h2.2.1 39 59 = xg 0 h1.2.1 39 59 ∧ ∀ k, xg 0 h2.2.1 67 k = xg 0 h1.2.1 67 k) ∧ ((!xe_c .lt x 0 && !xe_c .ge x 7) = true → v2 = some (.int (nI (rCn B x.toInt.toNat))) ∧ (rFs B x.toInt.toNat = none → xg 0 h2.2.1 39 59 = xg 0 h1.2.1 39 59 ∧ ∀ k, xg 0 h2.2.1 67 k = xg 0 h1.2.1 67 k) ∧ ∀ l0, rFs B x.toInt.toNat = some l0 → xg 0 h2.2.1 39 59 = Int32.ofInt 1 ∧ ∀ k, k < 7 → xg 0 h2.2.1 67 k = nI (atL l0 k))) : v1 = some (.int (rwVal B x)) ∧ v2 = some (.int (rwVal B x)) ∧ rwR h2 := by
  unfold rwVal
  cases c0 : (!xe_c .lt x 0 && !xe_c .ge x 7) with
  | false =>
    obtain ⟨p1, p2⟩ := a1.1 c0
    obtain ⟨q1, q2, q3⟩ := a2.1 c0
    exact ⟨p1, q1, rw_s r (q2.trans g59) (fun j => (g29 j).trans (p2 j)) (fun j => (q3 j).trans (g67 j))⟩
  | true =>
    obtain ⟨p1, p2, p3⟩ := a1.2 c0
    obtain ⟨q1, q2, q3⟩ := a2.2 c0
    refine ⟨p1, q1, ?_⟩
    cases e : rFs B x.toInt.toNat with
    | none =>
      obtain ⟨s1, s2⟩ := q2 e
      exact rw_s r (s1.trans g59) (fun j => (g29 j).trans (p2 e j)) (fun j => (s2 j).trans (g67 j))
    | some l0 =>
      obtain ⟨s1, s2⟩ := q3 l0 e
      exact Or.inr ⟨s1, fun j hj => (g29 j).trans ((p3 l0 e j hj).trans (s2 j hj).symm)⟩
/-- what class and reference have in common between two calls -/
def RI (h : xh_H) : Prop := (∃ t, tpe h t) ∧ rb h 0 9 39 4 12 ∧ rb h 0 8 39 33 8 ∧ rb h 0 10 39 3 999 ∧ rb h 35 3 39 63 60 ∧ xg 0 h.2.1 28 1 = xg 0 h.2.1 39 5 ∧ xg 0 h.2.1 0 11 = xg 0 h.2.1 39 13 ∧ chr_ h ∧ plr h ∧ SI h ∧ VZ h ∧ PI h ∧ rwR h
theorem RI_p {h : xh_H} (R : RI h) : PI h := R.2.2.2.2.2.2.2.2.2.2.2.1
theorem RI_w {h : xh_H} (R : RI h) : rwR h := R.2.2.2.2.2.2.2.2.2.2.2.2
/-- a frame that leaves it -/
def riM (md : List (Nat × Nat)) : Bool := rwM md && (vsM md && (siM md && (plM md && (chM md && (!a_mb md 1 1 && (!a_mb md 2 0 && (!a_mb md 39 2 && (!a_mb md 40 0 && (!a_mb md 0 9 && (!a_mb md 39 4 && (!a_mb md 0 8 && (!a_mb md 39 33 && (!a_mb md 0 10 && (!a_mb md 39 3 && (!a_mb md 35 3 && (!a_mb md 39 63 && (!a_mb md 28 1 && (!a_mb md 39 5 && (!a_mb md 0 11 && !a_mb md 39 13)))))))))))))))))))
theorem RI_t {md : List (Nat × Nat)} {h h' : xh_H} (R : RI h) (i : a_inv a_tb h) (l : 72 ≤ h.1.length) (F : Fs 8 h h') (f : a_fr md h h') (m : riM md = true) (P : PI h') : RI h' := by
  unfold riM at m
  simp only [Bool.and_eq_true, Bool.not_eq_true'] at m
  obtain ⟨mw, mv, ms, mp, m0, m1, m2, m3, m4, m5, m6, m7, m8, m9, m10, m11, m12, m13, m14, m15, m16⟩ := m
  obtain ⟨⟨t, tp⟩, r1, r2, r3, r4, r5, r6, r7, r8, r9, r10, -, r12⟩ := R
  exact ⟨⟨t, tpe_r f m1 (fun _ => m2) m3 (fun _ => m4) tp⟩, rb_r f rfl rfl m5 m6 r1, rb_r f rfl rfl m7 m8 r2, rb_r f rfl rfl m9 m10 r3, rb_r f rfl rfl m11 m12 r4, by rw [fr_g f rfl m13, fr_g f rfl m14]; exact r5, by rw [fr_g f rfl m15, fr_g f rfl m16]; exact r6, ch_r f m0 r7, pl_r f mp r8, SI_t i (a_rq_of i.1 l) F f ms r9, VZ_t f mv r10, P, rw_t f mw r12⟩
/-- between two calls of the law -/
def lc_I (h : xh_H) : Prop := a_inv a_tb h ∧ 72 ≤ h.1.length ∧ h.1.length % 2 = 0 ∧ RI h
theorem lc_Iq {h : xh_H} (I : lc_I h) : a_rq a_tb h := a_rq_of I.1.1 I.2.1
theorem lc_It {h h' : xh_H} {md : List (Nat × Nat)} (I : lc_I h) (i : a_inv a_tb h') (l : 72 ≤ h'.1.length) (p : h'.1.length % 2 = 0) (F : Fs 8 h h') (f : a_fr md h h') (m : riM md = true) (P : PI h') : lc_I h' := ⟨i, l, p, RI_t I.2.2.2 I.1 I.2.1 F f m P⟩
theorem lc_1 {D : Nat} {C : aC} {m : xm_M} {A : List Value} {h : xh_H} {lo hi : Int} {o : Option (aN × Int)} {ft ff : aF} (I : lc_I h) (hC : a_spec a_tb C) (hM : xM C.1 = some m) (hd : C.2.1 ≤ D) (ha : a_st (fun _ => 0) h.1.length C.2.2.1 A) (hp : C.2.2.2.2.2 = []) (hret : C.2.2.2.1 = [(some (0, lo, hi, o, ft, ff), [])]) (rm : riM C.2.2.2.2.1 = true) (fm : fzM C.1 = true) (pm : pwM C.2.2.2.2.1 = true) (qm : qzM C.1 = true) : ∃ (x : Int32) (h1 : xh_H), xR none D C.1 m (0, lv_args 0 A, [], h, 0, 0) (some (.int x), h1, 0, 0) ∧ lc_I h1 := by
  obtain ⟨v, h', r1, p1, p2, ⟨t, ht, p3⟩, p4⟩ := hC D m A h (fun _ => 0) hd hM I.1 I.2.1 ha (by rw [hp]; exact a_fp0)
  rw [hret] at ht
  cases List.mem_singleton.mp ht
  obtain ⟨⟨w, rfl, x, rfl, -⟩, -⟩ := p3
  exact ⟨x, h', r1, lc_It I p1 (by rw [p2]; exact I.2.1) (by rw [p2]; exact I.2.2.1) (Fs_z (lc_Iq I) (fz_run fm r1)) p4 rm (PI_t I.1 I.2.1 (Fs_z (lc_Iq I) (fz_run fm r1)) (qz_run qm r1) p4 pm (RI_p I.2.2.2))⟩
theorem lc_2 {D : Nat} {C : aC} {m : xm_M} {A : List Value} {h : xh_H} {lo hi : Int} {o : Option (aN × Int)} {ft ff : aF} (I : lc_I h) (hC : a_spec a_tb C) (hM : xM C.1 = some m) (hd : C.2.1 ≤ D) (ha : a_st (fun _ => 0) h.1.length C.2.2.1 A) (hp : C.2.2.2.2.2 = []) (hret : C.2.2.2.1 = [(some (1, lo, hi, o, ft, ff), [])]) (rm : riM C.2.2.2.2.1 = true) (fm : fzM C.1 = true) (pm : pwM C.2.2.2.2.1 = true) (qm : qzM C.1 = true) : ∃ (x : Int64) (h1 : xh_H), xR none D C.1 m (0, lv_args 0 A, [], h, 0, 0) (some (.long x), h1, 0, 0) ∧ lc_I h1 := by
  obtain ⟨v, h', r1, p1, p2, ⟨t, ht, p3⟩, p4⟩ := hC D m A h (fun _ => 0) hd hM I.1 I.2.1 ha (by rw [hp]; exact a_fp0)
  rw [hret] at ht
  cases List.mem_singleton.mp ht
  obtain ⟨⟨w, rfl, x, rfl, -⟩, -⟩ := p3
  exact ⟨x, h', r1, lc_It I p1 (by rw [p2]; exact I.2.1) (by rw [p2]; exact I.2.2.1) (Fs_z (lc_Iq I) (fz_run fm r1)) p4 rm (PI_t I.1 I.2.1 (Fs_z (lc_Iq I) (fz_run fm r1)) (qz_run qm r1) p4 pm (RI_p I.2.2.2))⟩
/-- a call by its contract, whatever it answers -/
theorem lc_3 {D : Nat} {C : aC} {m : xm_M} {A : List Value} {h : xh_H} (i : a_inv a_tb h) (l : 72 ≤ h.1.length) (hC : a_spec a_tb C) (hM : xM C.1 = some m) (hd : C.2.1 ≤ D) (ha : a_st (fun _ => 0) h.1.length C.2.2.1 A) (hp : C.2.2.2.2.2 = []) : ∃ v h1, xR none D C.1 m (0, lv_args 0 A, [], h, 0, 0) (v, h1, 0, 0) ∧ hk C.2.2.2.2.1 h h1 := by
  obtain ⟨v, h', r1, p1, p2, -, p4⟩ := hC D m A h (fun _ => 0) hd hM i l ha (by rw [hp]; exact a_fp0)
  exact ⟨v, h', r1, p1, p2, p4⟩
theorem xq_Z {d mid : Nat} {mi : xm_M} {pc : Nat} {lv : List (Nat × Value)} {st : List Value} {h : xh_H} {Q : Option Value → xh_H → Prop} {v : Option Value} {h' : xh_H} {c s : Nat} (k : xR none d mid mi (pc, lv, st, h, 0, 0) (v, h', c, s)) (hq : ∀ f, xq f mid mi pc lv st h Q) (hn : (lv.map (fun q => q.1)).Nodup) : Q v h' := xq_R hn k hq
theorem en_le {t : Nat} {n : Int32} : en_t t n ≤ t := by
  unfold en_t
  cases hb : en_ok t n with
  | false => exact Nat.le_refl t
  | true =>
    have := of_decide_eq_true hb
    show n.toInt.toNat ≤ t
    omega
theorem vt_le {B : Bool} {vc : Nat} (h : vc ≤ 60) : cond (B && decide (vc < 60)) (vc + 1) vc ≤ 60 := by
  cases B with
  | false => exact h
  | true =>
    show cond (decide (vc < 60)) (vc + 1) vc ≤ 60
    cases hb : decide (vc < 60) with
    | false => exact h
    | true =>
      have := of_decide_eq_true hb
      show vc + 1 ≤ 60
      omega
theorem mbB_n {s w r x : Int32} (h : mbB s w r x = true) : ∃ m : Nat, m ≤ 12 ∧ x = nI m := by
  unfold mbB at h
  simp only [Bool.and_eq_true, Bool.not_eq_true'] at h
  have b1 : (Int32.ofInt 1).toInt ≤ x.toInt := a_ce (a_neg_ok h.1.1)
  have b2 : x.toInt ≤ (12 : Int32).toInt := a_ce h.1.2
  have e1 : (Int32.ofInt 1).toInt = 1 := rfl
  have e2 : (12 : Int32).toInt = 12 := rfl
  rw [e1] at b1
  rw [e2] at b2
  exact ⟨x.toInt.toNat, by omega, en_n (t := 0) (by omega)⟩
/-- both statutes answer alike -/
theorem st_pair {f : Int32} {h h1 h2 : xh_H} {v1 v2 : Option Value} {n sc td mem : Nat} {T : Nat → Nat} (A1 : s9_A T n mem sc td f (xg 0 h.2.1 0 11) v1 h1) (A2 : ∀ r, (¬ sref sc td f → ∃ j, Tx T n mem j 0 0 0 (nmW T (fun _ => (0, 0))) r) → s10_A sc td f (xg 0 h1.2.1 39 13) r v2 h2) (sc8 : sc ≤ 8) (e11 : xg 0 h.2.1 0 11 = xg 0 h1.2.1 39 13) : v2 = v1 ∧ (∃ x, v1 = some (.int x)) ∧ (∃ m, m ≤ 8 ∧ xg 0 h1.2.1 0 8 = nI m ∧ xg 0 h2.2.1 39 33 = nI m) ∧ xg 0 h1.2.1 0 11 = xg 0 h2.2.1 39 13 := by
  by_cases hs : sref sc td f
  · obtain ⟨a, b, c⟩ := A1.1 hs
    obtain ⟨a', b', c'⟩ := (A2 (.inl 0) (fun z => absurd hs z)).1 hs
    exact ⟨a'.trans a.symm, ⟨_, a⟩, ⟨sc, sc8, b, b'⟩, c.trans (e11.trans c'.symm)⟩
  · obtain ⟨j, r, hX, a, b⟩ := A1.2 hs
    have A := (A2 r (fun _ => ⟨j, hX⟩)).2 hs
    have s8 : sc < 8 := by
      unfold sref at hs
      omega
    cases r with
    | inl m =>
      obtain ⟨x1, -, x3, x4⟩ := a m rfl
      obtain ⟨y1, y2, y3⟩ := A.1 m rfl
      exact ⟨y1.trans x1.symm, ⟨_, x1⟩, ⟨sc + 1, by omega, x3, y2⟩, x4.trans y3.symm⟩
    | inr q =>
      obtain ⟨k, pl⟩ := q
      obtain ⟨x1, x3, x4⟩ := b k pl rfl
      obtain ⟨y1, y2, y3⟩ := A.2 k pl rfl
      exact ⟨y1.trans x1.symm, ⟨_, x1⟩, ⟨sc, sc8, x3, y2⟩, x4.trans y3.symm⟩
theorem lc_m1 {mem : Nat} {h : xh_H} (I : lc_I h) (e9 : xg 0 h.2.1 0 9 = nI mem) (m12 : mem ≤ 12) : 1 ≤ mem := by
  have sb := a_flx (c := 0) (k := 9) (lo := 1) (hi := 12) I.1.1 I.2.1 rfl rfl (by decide)
  rw [e9, nI_toInt (by omega)] at sb
  omega
theorem lp_many {f : Nat} {x : Int32} {h : xh_H} (I : lc_I h) : xq f xi_X9_many xmi_X9_many 0 [(0, .ref 0), (1, .int x)] [] h (fun _ h' => PI h') := by
  obtain ⟨-, ⟨mem, m12, e9, -⟩, ⟨sc, sc8, e8, -⟩, ⟨td, td9, e10, -⟩, -, -, -, -, -, si, -, pi, -⟩ := I.2.2.2
  have m1 := lc_m1 I e9 m12
  exact ma9_p I.1 I.2.1 e9 m1 m12 e8 sc8 e10 si pi
theorem lp_setAt {f : Nat} {x y : Int32} {h : xh_H} (I : lc_I h) : xq f xi_X9_setAt xmi_X9_setAt 0 [(0, .ref 0), (1, .int x), (2, .int y)] [] h (fun _ h' => PI h') := by
  obtain ⟨-, ⟨mem, m12, e9, -⟩, ⟨sc, sc8, e8, -⟩, ⟨td, td9, e10, -⟩, -, -, -, -, -, si, -, pi, -⟩ := I.2.2.2
  have m1 := lc_m1 I e9 m12
  exact sa9_p I.1 I.2.1 e9 m1 m12 e8 sc8 e10 si pi
theorem lp_stronger {f : Nat} {x y : Int32} {h : xh_H} (I : lc_I h) : xq f xi_X9_stronger xmi_X9_stronger 0 [(0, .ref 0), (1, .int x), (2, .int y)] [] h (fun _ h' => PI h') := by
  obtain ⟨-, ⟨mem, m12, e9, -⟩, ⟨sc, sc8, e8, -⟩, ⟨td, td9, e10, -⟩, -, -, -, -, -, si, -, pi, -⟩ := I.2.2.2
  have m1 := lc_m1 I e9 m12
  exact xq_mono (sr9_q I.1 I.2.1 e9 m1 m12 e8 sc8 e10 si pi) (fun _ _ e => e.2)
theorem lp_turns {f : Nat} {x : Int32} {h : xh_H} (I : lc_I h) : xq f xi_X9_turns xmi_X9_turns 0 [(0, .ref 0), (1, .int x)] [] h (fun _ h' => PI h') := by
  obtain ⟨-, ⟨mem, m12, e9, -⟩, ⟨sc, sc8, e8, -⟩, ⟨td, td9, e10, -⟩, -, -, -, -, -, si, -, pi, -⟩ := I.2.2.2
  have m1 := lc_m1 I e9 m12
  exact xq_mono (tu9_q I.1 I.2.1 e9 m1 m12 e8 sc8 e10 si pi) (fun _ _ e => e.2)
theorem lp_chance {f : Nat} {x : Int32} {h : xh_H} (I : lc_I h) : xq f xi_X9_chance xmi_X9_chance 0 [(0, .ref 0), (1, .int x)] [] h (fun _ h' => PI h') := by
  obtain ⟨-, ⟨mem, m12, e9, -⟩, ⟨sc, sc8, e8, -⟩, ⟨td, td9, e10, -⟩, -, -, -, -, -, si, -, pi, -⟩ := I.2.2.2
  have m1 := lc_m1 I e9 m12
  exact ch9_p I.1 I.2.1 e9 m1 m12 e8 sc8 e10 si pi
theorem lp_ally {f : Nat} {x : Int32} {h : xh_H} (I : lc_I h) : xq f xi_X9_ally xmi_X9_ally 0 [(0, .ref 0), (1, .int x)] [] h (fun _ h' => PI h') := by
  obtain ⟨-, ⟨mem, m12, e9, -⟩, ⟨sc, sc8, e8, -⟩, ⟨td, td9, e10, -⟩, -, -, -, -, -, si, -, pi, -⟩ := I.2.2.2
  have m1 := lc_m1 I e9 m12
  exact xq_mono (al9_q I.1 I.2.1 e9 m1 m12 e8 sc8 e10 si pi) (fun _ _ e => e.2)
theorem lp_weigh {f : Nat} {h : xh_H} (I : lc_I h) : xq f xi_X9_weigh xmi_X9_weigh 0 [(0, .ref 0)] [] h (fun _ h' => PI h') := by
  obtain ⟨-, ⟨mem, m12, e9, -⟩, ⟨sc, sc8, e8, -⟩, ⟨td, td9, e10, -⟩, -, -, -, -, -, si, -, pi, -⟩ := I.2.2.2
  have m1 := lc_m1 I e9 m12
  exact we9_p I.1 I.2.1 e9 m1 m12 e8 sc8 e10 si pi
theorem lp_share {f : Nat} {x w z : Int32} {h : xh_H} (I : lc_I h) : xq f xi_X9_share xmi_X9_share 0 [(0, .ref 0), (1, .int x), (2, .int w), (3, .int z)] [] h (fun _ h' => PI h') := by
  obtain ⟨-, ⟨mem, m12, e9, -⟩, ⟨sc, sc8, e8, -⟩, ⟨td, td9, e10, -⟩, -, -, -, -, -, si, -, pi, -⟩ := I.2.2.2
  have m1 := lc_m1 I e9 m12
  exact sh9_p (k := 0) I.1 I.2.1 e9 m1 m12 e8 sc8 e10 si pi
/-- a call that studies anew -/
theorem lc_P {D : Nat} {C : aC} {m : xm_M} {A : List Value} {h : xh_H} {lo hi : Int} {o : Option (aN × Int)} {ft ff : aF} (I : lc_I h) (hC : a_spec a_tb C) (hM : xM C.1 = some m) (hd : C.2.1 ≤ D) (ha : a_st (fun _ => 0) h.1.length C.2.2.1 A) (hp : C.2.2.2.2.2 = []) (hret : C.2.2.2.1 = [(some (0, lo, hi, o, ft, ff), [])]) (rm : riM C.2.2.2.2.1 = true) (fm : fzM C.1 = true) (hn : ((lv_args 0 A).map (fun q => q.1)).Nodup) (hP : ∀ f, xq f C.1 m 0 (lv_args 0 A) [] h (fun _ h' => PI h')) : ∃ (x : Int32) (h1 : xh_H), xR none D C.1 m (0, lv_args 0 A, [], h, 0, 0) (some (.int x), h1, 0, 0) ∧ lc_I h1 := by
  obtain ⟨v, h', r1, p1, p2, ⟨t, ht, p3⟩, p4⟩ := hC D m A h (fun _ => 0) hd hM I.1 I.2.1 ha (by rw [hp]; exact a_fp0)
  rw [hret] at ht
  cases List.mem_singleton.mp ht
  obtain ⟨⟨w, rfl, x, rfl, -⟩, -⟩ := p3
  exact ⟨x, h', r1, lc_It I p1 (by rw [p2]; exact I.2.1) (by rw [p2]; exact I.2.2.1) (Fs_z (lc_Iq I) (fz_run fm r1)) p4 rm (xq_Z (hn := hn) r1 hP)⟩
/-- chance -/
theorem lc_chI {D : Nat} {x : Int32} {h h' : xh_H} {v : Option Value} (I : lc_I h) (r1 : xR none D xi_X9_chance xmi_X9_chance (0, lv_args 0 [.ref 0, .int x], [], h, 0, 0) (v, h', 0, 0)) (k1 : hk aC_m_X9_chance.2.2.2.2.1 h h') : lc_I h' := by
  obtain ⟨p1, p2, p4⟩ := k1
  obtain ⟨h1, z1, g1⟩ := xq_Z (hn := (show List.Nodup [0, 1] by decide)) r1 (fun f => ch9_q (f := f) (x := x) I.1 I.2.1)
  have q1 := lc_Iq I
  have b : ∀ {c : Nat} {s : Nat × Nat}, h1.1[c]? = some s → h.1[c]? = some s := fun {c s} e => by rw [← z1.1]; exact e
  have F1 : Fs 8 h h1 := Fs_z q1 z1
  have F2 : Fs 8 h1 h' := Fs_f g1 (fun _ _ _ => rfl) (fun c k e => by
    show Nat.beq c 20 = false
    rw [Bool.eq_false_iff]
    intro y
    have := Nat.eq_of_beq_eq_true y
    rcases sh64c q1 (b e) with z | z <;> omega)
  have F : Fs 8 h h' := ⟨Nat.le_trans F1.1 F2.1, fun c k e => (F2.2.1 c k (by rw [z1.1]; exact e)).trans (F1.2.1 c k e), fun c k e => (F2.2.2.1 c k (by rw [z1.1]; exact e)).trans (F1.2.2.1 c k e), fun k hk' => (F2.2.2.2.1 k hk').trans (F1.2.2.2.1 k hk'), fun c k e => (F2.2.2.2.2.1 c k (by rw [z1.1]; exact e)).trans (F1.2.2.2.2.1 c k e), F2.2.2.2.2.2.trans F1.2.2.2.2.2⟩
  exact lc_It I p1 (by rw [p2]; exact I.2.1) (by rw [p2]; exact I.2.2.1) F p4 rfl (xq_Z (hn := (show List.Nodup [0, 1] by decide)) r1 (fun f => lp_chance (f := f) I))
/-- chance -/
theorem lc_ch {D : Nat} {x : Int32} {h : xh_H} (I : lc_I h) (hd : aC_m_X9_chance.2.1 ≤ D) : ∃ (y : Int64) (h1 : xh_H), xR none D xi_X9_chance xmi_X9_chance (0, lv_args 0 [.ref 0, .int x], [], h, 0, 0) (some (.long y), h1, 0, 0) ∧ lc_I h1 := by
  obtain ⟨v, h', r1, p1, p2, ⟨t, ht, p3⟩, p4⟩ := as_m_X9_chance D xmi_X9_chance [.ref 0, .int x] h (fun _ => 0) hd rfl I.1 I.2.1 ⟨a_av (by decide) I.2.1, a_ai (ar_rng x).1 (ar_rng x).2, trivial⟩ a_fp0
  cases List.mem_singleton.mp ht
  obtain ⟨⟨w, rfl, y, rfl, -⟩, -⟩ := p3
  obtain ⟨h1, z1, g1⟩ := xq_Z (hn := (show List.Nodup [0, 1] by decide)) r1 (fun f => ch9_q (f := f) (x := x) I.1 I.2.1)
  have q1 := lc_Iq I
  have b : ∀ {c : Nat} {s : Nat × Nat}, h1.1[c]? = some s → h.1[c]? = some s := fun {c s} e => by rw [← z1.1]; exact e
  have F1 : Fs 8 h h1 := Fs_z q1 z1
  have F2 : Fs 8 h1 h' := Fs_f g1 (fun _ _ _ => rfl) (fun c k e => by
    show Nat.beq c 20 = false
    rw [Bool.eq_false_iff]
    intro y
    have := Nat.eq_of_beq_eq_true y
    rcases sh64c q1 (b e) with z | z <;> omega)
  have F : Fs 8 h h' := ⟨Nat.le_trans F1.1 F2.1, fun c k e => (F2.2.1 c k (by rw [z1.1]; exact e)).trans (F1.2.1 c k e), fun c k e => (F2.2.2.1 c k (by rw [z1.1]; exact e)).trans (F1.2.2.1 c k e), fun k hk' => (F2.2.2.2.1 k hk').trans (F1.2.2.2.1 k hk'), fun c k e => (F2.2.2.2.2.1 c k (by rw [z1.1]; exact e)).trans (F1.2.2.2.2.1 c k e), F2.2.2.2.2.2.trans F1.2.2.2.2.2⟩
  exact ⟨y, h', r1, lc_It I p1 (by rw [p2]; exact I.2.1) (by rw [p2]; exact I.2.2.1) F p4 rfl (xq_Z (hn := (show List.Nodup [0, 1] by decide)) r1 (fun f => lp_chance (f := f) I))⟩
/-- the reference's rows are of 0 and 1 -/
theorem SI_r {h : xh_H} {mem sc : Nat} (S : SI h) (e9 : xg 0 h.2.1 0 9 = nI mem) (m12 : mem ≤ 12) (e8 : xg 0 h.2.1 0 8 = nI sc) (sc8 : sc ≤ 8) : (∀ k, k < sc → (xg 0 h.2.1 52 k).toInt ≤ 999) ∧ (∀ k s, k < sc → s < 2 ^ mem → ∃ b : Bool, xg 0 h.2.1 44 (4096 * k + s) = bl b) ∧ ∀ k, k < sc → (xg 0 h.2.1 52 k).toInt ≤ (xg 0 h.2.1 51 k).toInt := by
  obtain ⟨a, -⟩ := S.2 mem sc e9 m12 e8 sc8
  refine ⟨fun k hk' => ?_, fun k s hk' hs => ?_, fun k hk' => ?_⟩
  · obtain ⟨q, -, -, -, -, -, -, -, q5, -⟩ := a k hk'
    omega
  · obtain ⟨q, -, -, -, -, -, -, -, -, q6⟩ := a k hk'
    exact ⟨_, (q6 s hs).symm⟩
  · obtain ⟨q, -, -, -, -, -, -, -, q5, -⟩ := a k hk'
    exact q5.1
theorem x45 {h : xh_H} {s : Nat} (i : a_inv a_tb h) (l : 72 ≤ h.1.length) (s4 : s < 4096) : ∃ b : Bool, xg 0 h.2.1 45 s = bl b := by
  obtain ⟨b1, b2⟩ := a_bl (c := 45) (n := 4096) (k := s) i.1 l rfl (by decide) (by decide +kernel) s4
  by_cases z : (xg 0 h.2.1 45 s).toInt = 0
  · exact ⟨false, Int32.toInt_inj.mp z⟩
  · exact ⟨true, Int32.toInt_inj.mp (show _ = (1 : Int) by omega)⟩
/-- both statutes leave the same rows -/
theorem st_si {f fk : Int32} {h h1 h2 : xh_H} {v1 v2 : Option Value} {n sc td mem : Nat} {T : Nat → Nat} {md : List (Nat × Nat)} (A1 : s9_A T n mem sc td f fk v1 h1) (A3 : ∀ r sv y, sv < 4096 → (¬ sref sc td f → ∃ j, Tx T n mem j 0 0 0 (nmW T (fun _ => (0, 0))) r) → (¬ sref sc td f → ∀ m, r = .inl m → ∃ j, Tv T n mem sv j 0 0 0 (nmW T (fun _ => (0, 0))) (fun _ => false) y) → s10_D h1 sc td f r sv y v2 h2) (i : a_inv a_tb h) (l : 72 ≤ h.1.length) (hp : h.1.length % 2 = 0) (i1 : a_inv a_tb h1) (l1 : 72 ≤ h1.1.length) (S : SI h) (e9 : xg 0 h.2.1 0 9 = nI mem) (m12 : mem ≤ 12) (e8 : xg 0 h.2.1 0 8 = nI sc) (sc8 : sc ≤ 8) (td9 : td ≤ 999) (c1 : cst h h1 sc) (n1 : cnw h h1 T n mem sc f) (f1 : a_fr md h h1) (g51 : ∀ k, xg 0 h1.2.1 51 k = xg 0 h.2.1 51 k) (g52 : ∀ k, xg 0 h1.2.1 52 k = xg 0 h.2.1 52 k) (g44 : ∀ k, xg 0 h1.2.1 44 k = xg 0 h.2.1 44 k) (d9 : xg 0 h2.2.1 0 9 = nI mem) (d8 : xg 0 h2.2.1 0 8 = xg 0 h1.2.1 0 8) : SI h2 := by
  by_cases hs : sref sc td f
  · have b := (A1.1 hs).2.1
    exact SI_n i l hp i1 l1 S e9 m12 e8 sc8 td9 c1 n1 f1 g51 g52 g44 d9 d8 (Or.inl b) (A3 (.inl 0) 0 true (by decide) (fun z => absurd hs z) (fun z => absurd hs z)).1 (fun z => (nI_8 sc8 (b.symm.trans z)).elim)
  · obtain ⟨j, r, hX, a, b⟩ := A1.2 hs
    cases r with
    | inr q =>
      obtain ⟨k, pl⟩ := q
      have b := (b k pl rfl).2.1
      exact SI_n i l hp i1 l1 S e9 m12 e8 sc8 td9 c1 n1 f1 g51 g52 g44 d9 d8 (Or.inl b) (A3 (.inr (k, pl)) 0 true (by decide) (fun _ => ⟨j, hX⟩) (fun _ m e => (by cases e))).1 (fun z => (nI_8 sc8 (b.symm.trans z)).elim)
    | inl m =>
      have b := (a m rfl).2.2.1
      obtain ⟨-, -, -, -, w5⟩ := n1 b
      obtain ⟨y0, j0, -, t0⟩ := w5 0 (by decide)
      have D0 := A3 (.inl m) 0 y0 (by decide) (fun _ => ⟨j, hX⟩) (fun _ _ _ => ⟨j0, t0⟩)
      refine SI_n i l hp i1 l1 S e9 m12 e8 sc8 td9 c1 n1 f1 g51 g52 g44 d9 d8 (Or.inr b) D0.1 (fun _ => ?_)
      obtain ⟨-, q2, q3, -⟩ := (D0.2.2 hs).1 m rfl
      unfold sref at hs
      exact ⟨by omega, by omega, q2, q3, fun s y s4 ht => ((A3 (.inl m) s y s4 (fun _ => ⟨j, hX⟩) (fun _ _ _ => ht)).2.2 (by unfold sref; omega)).1 m rfl |>.2.2.2⟩
theorem lg_slf {x : Int64} : lg_cmp x x = 0 := by unfold lg_cmp; simp
theorem st_fx {f fk : Int32} {h h1 h2 : xh_H} {v1 v2 : Option Value} {n sc td mem : Nat} {T : Nat → Nat} (A1 : s9_A T n mem sc td f fk v1 h1) (A3 : ∀ r sv y, sv < 4096 → (¬ sref sc td f → ∃ j, Tx T n mem j 0 0 0 (nmW T (fun _ => (0, 0))) r) → (¬ sref sc td f → ∀ m, r = .inl m → ∃ j, Tv T n mem sv j 0 0 0 (nmW T (fun _ => (0, 0))) (fun _ => false) y) → s10_D h1 sc td f r sv y v2 h2) (n1 : cnw h h1 T n mem sc f) : fx (rW3 sc) rV h1 h2 := by
  by_cases hs : sref sc td f
  · exact (A3 (.inl 0) 0 true (by decide) (fun z => absurd hs z) (fun z => absurd hs z)).1
  · obtain ⟨j, r, hX, a, b⟩ := A1.2 hs
    cases r with
    | inr q =>
      obtain ⟨k, pl⟩ := q
      exact (A3 (.inr (k, pl)) 0 true (by decide) (fun _ => ⟨j, hX⟩) (fun _ m e => (by cases e))).1
    | inl m =>
      have b := (a m rfl).2.2.1
      obtain ⟨-, -, -, -, w5⟩ := n1 b
      obtain ⟨y0, j0, -, t0⟩ := w5 0 (by decide)
      exact (A3 (.inl m) 0 y0 (by decide) (fun _ => ⟨j, hX⟩) (fun _ _ _ => ⟨j0, t0⟩)).1
theorem PI_w {md : List (Nat × Nat)} {sc : Nat} {h h' : xh_H} (i : a_inv a_tb h) (l : 72 ≤ h.1.length) (g : fx (rW3 sc) rV h h') (f : a_fr md h h') (m : pwM md = true) (P : PI h) : PI h' := PI_s i l (fun c k e _ => g.2.2.2 c k (rV_12 (sh64c (a_rq_of i.1 l) e))) (fun c k _ => by rw [g.2.1]) (by rw [g.2.1]) (pw_e f m) P
/-- the law's locals -/
def lc_v (i : Nat) : List (Nat × Value) := [(4, .int (nI i)), (3, .ref 71), (2, .ref 39), (1, .ref 0), (0, .float 0)]
theorem lc_ia {L : Nat} {xs : Nat → Int32} {nL d pc k : Nat} {lv : List (Nat × Value)} {st : List Value} {h : xh_H} {c s : Nat} (hk : k < L) (hL : L ≤ 3072) : xe_2 (some (L, xs)) nL (.iaload, 1, 0, 0, 0, 0) d pc lv (.int (nI k) :: .float 0 :: st) h c s = some (pc + 1, lv, .int (xs k) :: st, h, c, s) := by
  have e := xin_n (k := k) (n := L) hk (by omega)
  have e2 : (nI k).toNatClampNeg = k := nI_clamp (by omega)
  have e3 : xe_o (some (L, xs)) (.iaload, 1, 0, 0, 0, 0) pc lv (.int (nI k) :: .float 0 :: st) h c s = some (pc + 1, lv, .int (xs k) :: st, h, c, s) := by
    show cond (Nat.beq (0 : UInt32).toNat 0 && xe_in (nI k) L) (some (pc + 1, lv, Value.int (xs (nI k).toNatClampNeg) :: st, h, c, s)) none = _
    rw [e, e2]
    rfl
  unfold xe_2
  rw [show xe_1 nL (.iaload, 1, 0, 0, 0, 0) pc lv (.int (nI k) :: .float 0 :: st) h c s = none from rfl]
  dsimp only
  rw [e3]
theorem xV_arg {L : Nat} {xs : Nat → Int32} {stop d pc i : Nat} {st : List Value} {h : xh_H} {c s : Nat} {o : xs_S} (j : Nat) (jj : Int) (hj : Int32.ofInt jj = nI j) (hi : i + j < L) (hL : L ≤ 3072) (b0 : Nat.beq pc stop = false) (b1 : Nat.beq (pc + 1) stop = false) (b3 : Nat.beq (pc + 3) stop = false) (b4 : Nat.beq (pc + 4) stop = false) (b5 : Nat.beq (pc + 5) stop = false) (r0 : xC xi_L_law pc = some (.aload_n 0, 1, 0, 0, 0, 0)) (r1 : xC xi_L_law (pc + 1) = some (.iload 4, 2, 0, 0, 0, 0)) (r3 : xC xi_L_law (pc + 3) = some (.iconst jj, 1, 0, 0, 0, 0)) (r4 : xC xi_L_law (pc + 4) = some (.iadd, 1, 0, 0, 0, 0)) (r5 : xC xi_L_law (pc + 5) = some (.iaload, 1, 0, 0, 0, 0)) (k : xV (some (L, xs)) stop d xi_L_law xmi_L_law (pc + 6, lc_v i, .int (xs (i + j)) :: st, h, c, s) o) : xV (some (L, xs)) stop d xi_L_law xmi_L_law (pc, lc_v i, st, h, c, s) o := by
  refine xV_step (o1 := (pc + 1, lc_v i, .float 0 :: st, h, c, s)) b0 r0 rfl rfl ?_
  refine xV_step (o1 := (pc + 3, lc_v i, .int (nI i) :: .float 0 :: st, h, c, s)) b1 r1 rfl rfl ?_
  refine xV_step (o1 := (pc + 4, lc_v i, .int (Int32.ofInt jj) :: .int (nI i) :: .float 0 :: st, h, c, s)) b3 r3 rfl rfl ?_
  refine xV_step (o1 := (pc + 5, lc_v i, .int (nI i + Int32.ofInt jj) :: .float 0 :: st, h, c, s)) b4 r4 rfl rfl ?_
  refine xV_step (o1 := (pc + 6, lc_v i, .int (xs (i + j)) :: st, h, c, s)) b5 r5 rfl ?_ k
  rw [hj, nI_add]
  exact lc_ia hi hL
/-- what is to be shown of a call -/
def lo_P (L : Nat) (xs : Nat → Int32) (i pc : Nat) (h : xh_H) (c s : Nat) : Prop := ∃ h' c' s', xV (some (L, xs)) 999 50 xi_L_law xmi_L_law (pc, lc_v i, [], h, c, s) (999, lc_v i, [], h', c', s') ∧ lc_I h' ∧ c' ≤ c + 2 ∧ s' ≤ s + 66
theorem a_an {n : Nat} {x : Int32} : a_v (fun _ => 0) n (0, (-2147483648), 2147483647, none, [], []) (.int x) := a_ai (ar_rng x).1 (ar_rng x).2
end XLL
end
section
section XLO
variable {L i : Nat} {xs : Nat → Int32} {h : xh_H} {c s : Nat}
end XLO
end
section
section XLQ
variable {L i : Nat} {xs : Nat → Int32} {h : xh_H} {c s : Nat}
set_option maxRecDepth 100000 in
set_option maxHeartbeats 4000000 in
/-- weigh -/
theorem lo_14 (hL : L ≤ 3072) (hi6 : i + 6 ≤ L) (I : lc_I h) : lo_P L xs i 617 h c s := by
  obtain ⟨x1, h1, r1, I1⟩ := lc_P (D := 49) (m := xmi_X9_weigh) (A := [.ref 0]) I as_m_X9_weigh rfl (by decide) ⟨a_av (by decide) I.2.1, trivial⟩ rfl rfl rfl (by decide +kernel) (show List.Nodup [0] by decide) (fun f => lp_weigh (f := f) I)
  obtain ⟨x2, h2, r2, I2⟩ := lc_1 (D := 49) (m := xmi_X10_weigh) (A := [.ref 39]) I1 as_r_X10_weigh rfl (by decide) ⟨a_av (by decide) I1.2.1, trivial⟩ rfl rfl rfl (by decide +kernel) rfl (by decide +kernel)
  refine ⟨h2, c, s, ?_, I2, by omega, by omega⟩
  refine xV_step (o1 := (618, lc_v i, [.ref 0], h, c, s)) rfl rfl rfl rfl ?_
  refine xV_call (d := 49) rfl rfl rfl rfl (xa_c_ok (d := 49) (pc := 618) (lv := lc_v i) (nL := 8) (lc_Iq I) rfl).1 r1 ?_
  refine xV_step (o1 := (622, lc_v i, [], h1, c, s)) rfl rfl rfl rfl ?_
  refine xV_step (o1 := (623, lc_v i, [.ref 39], h1, c, s)) rfl rfl rfl rfl ?_
  refine xV_call (d := 49) rfl rfl rfl rfl (xa_c_ok (d := 49) (pc := 623) (lv := lc_v i) (nL := 8) (lc_Iq I1) rfl).1 r2 ?_
  refine xV_step (o1 := (627, lc_v i, [], h2, c, s)) rfl rfl rfl rfl ?_
  refine xV_step (o1 := (999, lc_v i, [], h2, c, s)) rfl rfl rfl rfl ?_
  exact xV_stop
set_option maxRecDepth 100000 in
set_option maxHeartbeats 4000000 in
/-- weight -/
theorem lo_15 (hL : L ≤ 3072) (hi6 : i + 6 ≤ L) (I : lc_I h) : lo_P L xs i 630 h c s := by
  obtain ⟨x1, h1, r1, I1⟩ := lc_1 (D := 49) (m := xmi_X9_weight) (A := [.ref 0, .int (xs (i + 1))]) I as_m_X9_weight rfl (by decide) ⟨a_av (by decide) I.2.1, a_an, trivial⟩ rfl rfl rfl (by decide +kernel) rfl (by decide +kernel)
  obtain ⟨x2, h2, r2, I2⟩ := lc_1 (D := 49) (m := xmi_X10_weight) (A := [.ref 39, .int (xs (i + 1))]) I1 as_m_X10_weight rfl (by decide) ⟨a_av (by decide) I1.2.1, a_an, trivial⟩ rfl rfl rfl (by decide +kernel) rfl (by decide +kernel)
  refine ⟨h2, c, s, ?_, I2, by omega, by omega⟩
  refine xV_step (o1 := (631, lc_v i, [.ref 0], h, c, s)) rfl rfl rfl rfl ?_
  refine xV_arg 1 1 rfl (by omega) hL rfl rfl rfl rfl rfl rfl rfl rfl rfl rfl ?_
  refine xV_call (d := 49) rfl rfl rfl rfl (xa_c_ok (d := 49) (pc := 637) (lv := lc_v i) (nL := 8) (lc_Iq I) rfl).1 r1 ?_
  refine xV_step (o1 := (641, lc_v i, [], h1, c, s)) rfl rfl rfl rfl ?_
  refine xV_step (o1 := (642, lc_v i, [.ref 39], h1, c, s)) rfl rfl rfl rfl ?_
  refine xV_arg 1 1 rfl (by omega) hL rfl rfl rfl rfl rfl rfl rfl rfl rfl rfl ?_
  refine xV_call (d := 49) rfl rfl rfl rfl (xa_c_ok (d := 49) (pc := 648) (lv := lc_v i) (nL := 8) (lc_Iq I1) rfl).1 r2 ?_
  refine xV_step (o1 := (652, lc_v i, [], h2, c, s)) rfl rfl rfl rfl ?_
  refine xV_step (o1 := (999, lc_v i, [], h2, c, s)) rfl rfl rfl rfl ?_
  exact xV_stop
end XLQ
end
section
section XLH
variable {L i : Nat} {xs : Nat → Int32} {h : xh_H} {c s : Nat}
set_option maxRecDepth 100000 in
set_option maxHeartbeats 4000000 in
/-- feed -/
theorem lo_0 (hL : L ≤ 3072) (hi6 : i + 6 ≤ L) (I : lc_I h) : lo_P L xs i 168 h c s := by
  obtain ⟨⟨t, tp⟩, ⟨mem, m12, e9, e4⟩, ⟨sc, sc8, e8, e33⟩, ⟨td, td9, e10, e3⟩, ⟨vc, vc6, e35, e63⟩, e1, e11, ch, pl, si, vs, pi, rwr⟩ := I.2.2.2
  have R := I.2.2.2
  obtain ⟨v1, h1, r1, k1, rfl, n1⟩ := f9_run (d := 48) (a := xs (i + 1)) (b := xs (i + 2)) (c := xs (i + 3)) (d4 := xs (i + 4)) (e5 := xs (i + 5)) I.2.1 I.1 tp.1 tp.2.2.1
  have l1 : 72 ≤ h1.1.length := hk_n k1 I.2.1
  have tq := (hk_g (c := 39) (k := 2) k1 rfl rfl).trans tp.2.1
  obtain ⟨v2, h2, r2, k2, rfl, n2⟩ := f10_run (d := 48) (a := xs (i + 1)) (b := xs (i + 2)) (c := xs (i + 3)) (d4 := xs (i + 4)) (e5 := xs (i + 5)) l1 k1.1 tq tp.2.2.1
  have q1 := xq_Z (hn := (show List.Nodup [0, 1, 2, 3, 4, 5] by decide)) r1 (fun f => fd9_q (f := f) (t := t) (lc_Iq I) tp.2.2.1 tp.1)
  have q2 := xq_Z (hn := (show List.Nodup [0, 1, 2, 3, 4, 5] by decide)) r2 (fun f => fd10_q (f := f) (t := t) (hk_q k1 I.2.1) tp.2.2.1 tq)
  have f1 := k1.2.2
  have f2 := k2.2.2
  have tp2 : ∃ t, tpe h2 t := by
    by_cases l : t + 20 ≤ 640
    · obtain ⟨-, g1, m1, b1⟩ := q1.1 l
      obtain ⟨-, g2, m2, b2⟩ := q2.1 l
      exact ⟨_, fd_al tp l g1 m1 b1 g2 m2 b2⟩
    · obtain ⟨-, y1⟩ := q1.2 l
      have tp1 : tpe h1 t := by rw [y1]; exact tp
      obtain ⟨-, g2, m2, b2⟩ := q2.2 l
      exact ⟨t, (fx_i (c := 1) (k := 1) g2 rfl).trans tp1.1, m2.trans tp1.2.1, tp.2.2.1, fun k hk' => by rw [fx_i (c := 2) (k := k) g2 rfl, b2 k]; exact tp1.2.2.2 k hk'⟩
  have I2 : lc_I h2 := ⟨k2.1, hk_n k2 l1, by rw [k2.2.1, k1.2.1]; exact I.2.2.1, ⟨tp2, rb_2 f1 f2 rfl rfl rfl rfl rfl rfl R.2.1, rb_2 f1 f2 rfl rfl rfl rfl rfl rfl R.2.2.1, rb_2 f1 f2 rfl rfl rfl rfl rfl rfl R.2.2.2.1, rb_2 f1 f2 rfl rfl rfl rfl rfl rfl R.2.2.2.2.1, pr_2 f1 f2 rfl rfl rfl rfl rfl rfl R.2.2.2.2.2.1, pr_2 f1 f2 rfl rfl rfl rfl rfl rfl R.2.2.2.2.2.2.1, ch_2 f1 f2 rfl rfl R.2.2.2.2.2.2.2.1, pl_2 f1 f2 rfl rfl R.2.2.2.2.2.2.2.2.1, SI_2 I.1 I.2.1 k1.1 l1 (fz_run (by decide +kernel) r1) (fz_run (by decide +kernel) r2) f1 f2 rfl rfl R.2.2.2.2.2.2.2.2.2.1, VZ_2 f1 f2 rfl rfl R.2.2.2.2.2.2.2.2.2.2.1, PI_2 I.1 I.2.1 k1.1 l1 (fz_run (by decide +kernel) r1) (qz_run (by decide +kernel) r1) f1 rfl (fz_run (by decide +kernel) r2) (qz_run (by decide +kernel) r2) f2 rfl (RI_p R), rw_2 f1 f2 rfl rfl (RI_w R)⟩⟩
  refine ⟨h2, c, s, ?_, I2, by omega, by omega⟩
  refine xV_step (o1 := (169, lc_v i, [.ref 0], h, c, s)) rfl rfl rfl rfl ?_
  refine xV_arg 1 1 rfl (by omega) hL rfl rfl rfl rfl rfl rfl rfl rfl rfl rfl ?_
  refine xV_arg 2 2 rfl (by omega) hL rfl rfl rfl rfl rfl rfl rfl rfl rfl rfl ?_
  refine xV_arg 3 3 rfl (by omega) hL rfl rfl rfl rfl rfl rfl rfl rfl rfl rfl ?_
  refine xV_arg 4 4 rfl (by omega) hL rfl rfl rfl rfl rfl rfl rfl rfl rfl rfl ?_
  refine xV_arg 5 5 rfl (by omega) hL rfl rfl rfl rfl rfl rfl rfl rfl rfl rfl ?_
  refine xV_call (d := 49) rfl rfl rfl rfl (xa_c_ok (d := 49) (pc := 199) (lv := lc_v i) (nL := 8) (lc_Iq I) rfl).1 r1 ?_
  refine xV_step (o1 := (203, lc_v i, [], h1, c, s)) rfl rfl rfl rfl ?_
  refine xV_step (o1 := (204, lc_v i, [.ref 39], h1, c, s)) rfl rfl rfl rfl ?_
  refine xV_arg 1 1 rfl (by omega) hL rfl rfl rfl rfl rfl rfl rfl rfl rfl rfl ?_
  refine xV_arg 2 2 rfl (by omega) hL rfl rfl rfl rfl rfl rfl rfl rfl rfl rfl ?_
  refine xV_arg 3 3 rfl (by omega) hL rfl rfl rfl rfl rfl rfl rfl rfl rfl rfl ?_
  refine xV_arg 4 4 rfl (by omega) hL rfl rfl rfl rfl rfl rfl rfl rfl rfl rfl ?_
  refine xV_arg 5 5 rfl (by omega) hL rfl rfl rfl rfl rfl rfl rfl rfl rfl rfl ?_
  refine xV_call (d := 49) rfl rfl rfl rfl (xa_c_ok (d := 49) (pc := 234) (lv := lc_v i) (nL := 8) (hk_q k1 I.2.1) rfl).1 r2 ?_
  refine xV_step (o1 := (238, lc_v i, [], h2, c, s)) rfl rfl rfl rfl ?_
  refine xV_step (o1 := (999, lc_v i, [], h2, c, s)) rfl rfl rfl rfl ?_
  exact xV_stop
set_option maxRecDepth 100000 in
set_option maxHeartbeats 4000000 in
/-- end -/
theorem lo_1 (hL : L ≤ 3072) (hi6 : i + 6 ≤ L) (I : lc_I h) : lo_P L xs i 241 h c s := by
  obtain ⟨⟨t, tp⟩, ⟨mem, m12, e9, e4⟩, ⟨sc, sc8, e8, e33⟩, ⟨td, td9, e10, e3⟩, ⟨vc, vc6, e35, e63⟩, e1, e11, ch, pl, si, vs, pi, rwr⟩ := I.2.2.2
  have R := I.2.2.2
  obtain ⟨v1, h1, r1, k1, rfl, n1⟩ := e9_run (d := 49) (n := xs (i + 1)) I.2.1 I.1 tp.1 tp.2.2.1
  have l1 : 72 ≤ h1.1.length := hk_n k1 I.2.1
  obtain ⟨v2, h2, r2, k2, rfl, n2⟩ := e10_run (d := 49) (n := xs (i + 1)) l1 k1.1 ((hk_g (c := 39) (k := 2) k1 rfl rfl).trans tp.2.1) tp.2.2.1
  have f1 := k1.2.2
  have f2 := k2.2.2
  have tp2 : ∃ t, tpe h2 t := ⟨en_t t (xs (i + 1)), (hk_g (c := 1) (k := 1) k2 rfl rfl).trans n1, n2, en_t6 tp.2.2.1, fun k hk' => by
    have z := tp.2.2.2 k (Nat.lt_of_lt_of_le hk' en_le)
    rw [hk_g (c := 2) (k := k) k2 rfl rfl, hk_g (c := 2) (k := k) k1 rfl rfl, hk_g (c := 40) (k := k) k2 rfl rfl, hk_g (c := 40) (k := k) k1 rfl rfl]
    exact z⟩
  have I2 : lc_I h2 := ⟨k2.1, hk_n k2 l1, by rw [k2.2.1, k1.2.1]; exact I.2.2.1, ⟨tp2, rb_2 f1 f2 rfl rfl rfl rfl rfl rfl R.2.1, rb_2 f1 f2 rfl rfl rfl rfl rfl rfl R.2.2.1, rb_2 f1 f2 rfl rfl rfl rfl rfl rfl R.2.2.2.1, rb_2 f1 f2 rfl rfl rfl rfl rfl rfl R.2.2.2.2.1, pr_2 f1 f2 rfl rfl rfl rfl rfl rfl R.2.2.2.2.2.1, pr_2 f1 f2 rfl rfl rfl rfl rfl rfl R.2.2.2.2.2.2.1, ch_2 f1 f2 rfl rfl R.2.2.2.2.2.2.2.1, pl_2 f1 f2 rfl rfl R.2.2.2.2.2.2.2.2.1, SI_2 I.1 I.2.1 k1.1 l1 (fz_run (by decide +kernel) r1) (fz_run (by decide +kernel) r2) f1 f2 rfl rfl R.2.2.2.2.2.2.2.2.2.1, VZ_2 f1 f2 rfl rfl R.2.2.2.2.2.2.2.2.2.2.1, PI_2 I.1 I.2.1 k1.1 l1 (fz_run (by decide +kernel) r1) (qz_run (by decide +kernel) r1) f1 rfl (fz_run (by decide +kernel) r2) (qz_run (by decide +kernel) r2) f2 rfl (RI_p R), rw_2 f1 f2 rfl rfl (RI_w R)⟩⟩
  refine ⟨h2, c, s, ?_, I2, by omega, by omega⟩
  refine xV_step (o1 := (242, lc_v i, [.ref 0], h, c, s)) rfl rfl rfl rfl ?_
  refine xV_arg 1 1 rfl (by omega) hL rfl rfl rfl rfl rfl rfl rfl rfl rfl rfl ?_
  refine xV_call (d := 49) rfl rfl rfl rfl (xa_c_ok (d := 49) (pc := 248) (lv := lc_v i) (nL := 8) (lc_Iq I) rfl).1 r1 ?_
  refine xV_step (o1 := (252, lc_v i, [], h1, c, s)) rfl rfl rfl rfl ?_
  refine xV_step (o1 := (253, lc_v i, [.ref 39], h1, c, s)) rfl rfl rfl rfl ?_
  refine xV_arg 1 1 rfl (by omega) hL rfl rfl rfl rfl rfl rfl rfl rfl rfl rfl ?_
  refine xV_call (d := 49) rfl rfl rfl rfl (xa_c_ok (d := 49) (pc := 259) (lv := lc_v i) (nL := 8) (hk_q k1 I.2.1) rfl).1 r2 ?_
  refine xV_step (o1 := (263, lc_v i, [], h2, c, s)) rfl rfl rfl rfl ?_
  refine xV_step (o1 := (999, lc_v i, [], h2, c, s)) rfl rfl rfl rfl ?_
  exact xV_stop
set_option maxRecDepth 100000 in
set_option maxHeartbeats 4000000 in
/-- next -/
theorem lo_2 (hL : L ≤ 3072) (hi6 : i + 6 ≤ L) (I : lc_I h) : lo_P L xs i 266 h c s := by
  obtain ⟨⟨t, tp⟩, ⟨mem, m12, e9, e4⟩, ⟨sc, sc8, e8, e33⟩, ⟨td, td9, e10, e3⟩, ⟨vc, vc6, e35, e63⟩, e1, e11, ch, pl, si, vs, pi, rwr⟩ := I.2.2.2
  have R := I.2.2.2
  obtain ⟨v1, h1, r1, k1, rfl, n1⟩ := n9_run (d := 49) (n := xs (i + 1)) I.2.1 I.1 td9 e10
  have l1 : 72 ≤ h1.1.length := hk_n k1 I.2.1
  obtain ⟨v2, h2, r2, k2, rfl, n2⟩ := n10_run (d := 48) (n := xs (i + 1)) l1 k1.1 td9 ((hk_g (c := 39) (k := 3) k1 rfl rfl).trans e3)
  have f1 := k1.2.2
  have f2 := k2.2.2
  have I2 : lc_I h2 := ⟨k2.1, hk_n k2 l1, by rw [k2.2.1, k1.2.1]; exact I.2.2.1, ⟨tp_2 f1 f2 rfl (fun _ => rfl) rfl (fun _ => rfl) rfl (fun _ => rfl) rfl (fun _ => rfl) R.1, rb_2 f1 f2 rfl rfl rfl rfl rfl rfl R.2.1, rb_2 f1 f2 rfl rfl rfl rfl rfl rfl R.2.2.1, ⟨nx_t td (xs (i + 1)), nx_t9 td9, (hk_g (c := 0) (k := 10) k2 rfl rfl).trans n1, n2⟩, rb_2 f1 f2 rfl rfl rfl rfl rfl rfl R.2.2.2.2.1, pr_2 f1 f2 rfl rfl rfl rfl rfl rfl R.2.2.2.2.2.1, pr_2 f1 f2 rfl rfl rfl rfl rfl rfl R.2.2.2.2.2.2.1, ch_2 f1 f2 rfl rfl R.2.2.2.2.2.2.2.1, pl_2 f1 f2 rfl rfl R.2.2.2.2.2.2.2.2.1, SI_2 I.1 I.2.1 k1.1 l1 (fz_run (by decide +kernel) r1) (fz_run (by decide +kernel) r2) f1 f2 rfl rfl R.2.2.2.2.2.2.2.2.2.1, VZ_2 f1 f2 rfl rfl R.2.2.2.2.2.2.2.2.2.2.1, PI_2 I.1 I.2.1 k1.1 l1 (fz_run (by decide +kernel) r1) (qz_run (by decide +kernel) r1) f1 rfl (fz_run (by decide +kernel) r2) (qz_run (by decide +kernel) r2) f2 rfl (RI_p R), rw_2 f1 f2 rfl rfl (RI_w R)⟩⟩
  refine ⟨h2, c, s, ?_, I2, by omega, by omega⟩
  refine xV_step (o1 := (267, lc_v i, [.ref 0], h, c, s)) rfl rfl rfl rfl ?_
  refine xV_arg 1 1 rfl (by omega) hL rfl rfl rfl rfl rfl rfl rfl rfl rfl rfl ?_
  refine xV_call (d := 49) rfl rfl rfl rfl (xa_c_ok (d := 49) (pc := 273) (lv := lc_v i) (nL := 8) (lc_Iq I) rfl).1 r1 ?_
  refine xV_step (o1 := (277, lc_v i, [], h1, c, s)) rfl rfl rfl rfl ?_
  refine xV_step (o1 := (278, lc_v i, [.ref 39], h1, c, s)) rfl rfl rfl rfl ?_
  refine xV_arg 1 1 rfl (by omega) hL rfl rfl rfl rfl rfl rfl rfl rfl rfl rfl ?_
  refine xV_call (d := 49) rfl rfl rfl rfl (xa_c_ok (d := 49) (pc := 284) (lv := lc_v i) (nL := 8) (hk_q k1 I.2.1) rfl).1 r2 ?_
  refine xV_step (o1 := (288, lc_v i, [], h2, c, s)) rfl rfl rfl rfl ?_
  refine xV_step (o1 := (999, lc_v i, [], h2, c, s)) rfl rfl rfl rfl ?_
  exact xV_stop
set_option maxRecDepth 100000 in
set_option maxHeartbeats 4000000 in
/-- members -/
theorem lo_3 (hL : L ≤ 3072) (hi6 : i + 6 ≤ L) (I : lc_I h) : lo_P L xs i 291 h c s := by
  obtain ⟨⟨t, tp⟩, ⟨mem, m12, e9, e4⟩, ⟨sc, sc8, e8, e33⟩, ⟨td, td9, e10, e3⟩, ⟨vc, vc6, e35, e63⟩, e1, e11, ch, pl, si, vs, pi, rwr⟩ := I.2.2.2
  have R := I.2.2.2
  obtain ⟨v1, h1, r1, k1⟩ := lc_3 (D := 49) (C := aC_m_X9_members) (m := xmi_X9_members) (A := [.ref 0, .int (xs (i + 1))]) I.1 I.2.1 as_m_X9_members rfl (by decide) ⟨a_av (by decide) I.2.1, a_an, trivial⟩ rfl
  have l1 : 72 ≤ h1.1.length := hk_n k1 I.2.1
  obtain ⟨v2, h2, r2, k2⟩ := lc_3 (D := 49) (C := aC_m_X10_members) (m := xmi_X10_members) (A := [.ref 39, .int (xs (i + 1))]) k1.1 l1 as_m_X10_members rfl (by decide) ⟨a_av (by decide) l1, a_an, trivial⟩ rfl
  obtain ⟨rfl, d1⟩ := xq_Z (hn := (show List.Nodup [0, 1] by decide)) r1 (fun f => mb9_q (f := f) (x := xs (i + 1)) (s := nI sc) (w := nI vc) (r := xg 0 h.2.1 28 1) I.1 I.2.1 e8 e35 rfl)
  obtain ⟨rfl, d2⟩ := xq_Z (hn := (show List.Nodup [0, 1] by decide)) r2 (fun f => mb10_q (f := f) (x := xs (i + 1)) (s := nI sc) (w := nI vc) (r := xg 0 h.2.1 28 1) (hk_q k1 I.2.1) ((hk_g (c := 39) (k := 33) k1 rfl rfl).trans e33) ((hk_g (c := 39) (k := 63) k1 rfl rfl).trans e63) ((hk_g (c := 39) (k := 5) k1 rfl rfl).trans e1.symm))
  have f1 := k1.2.2
  have f2 := k2.2.2
  have sz2 : rb h2 0 9 39 4 12 := by
    cases hB : mbB (nI sc) (nI vc) (xg 0 h.2.1 28 1) (xs (i + 1)) with
    | true =>
      obtain ⟨m, z1, z2⟩ := mbB_n hB
      rw [hB] at d1 d2
      exact ⟨m, z1, (hk_g (c := 0) (k := 9) k2 rfl rfl).trans (d1.trans z2), d2.trans z2⟩
    | false =>
      rw [hB] at d1 d2
      exact ⟨mem, m12, (hk_g (c := 0) (k := 9) k2 rfl rfl).trans (d1.trans e9), d2.trans ((hk_g (c := 39) (k := 4) k1 rfl rfl).trans e4)⟩
  have qm := xq_Z (hn := (show List.Nodup [0, 1] by decide)) r1 (fun f => mb9d_q (f := f) (x := xs (i + 1)) (s := nI sc) (w := nI vc) (r := xg 0 h.2.1 28 1) (lc_Iq I) e8 e35 rfl si.1.2.1 si.1.2.2)
  have I2 : lc_I h2 := ⟨k2.1, hk_n k2 l1, by rw [k2.2.1, k1.2.1]; exact I.2.2.1, ⟨tp_2 f1 f2 rfl (fun _ => rfl) rfl (fun _ => rfl) rfl (fun _ => rfl) rfl (fun _ => rfl) R.1, sz2, rb_2 f1 f2 rfl rfl rfl rfl rfl rfl R.2.2.1, rb_2 f1 f2 rfl rfl rfl rfl rfl rfl R.2.2.2.1, rb_2 f1 f2 rfl rfl rfl rfl rfl rfl R.2.2.2.2.1, pr_2 f1 f2 rfl rfl rfl rfl rfl rfl R.2.2.2.2.2.1, pr_2 f1 f2 rfl rfl rfl rfl rfl rfl R.2.2.2.2.2.2.1, ch_2 f1 f2 rfl rfl R.2.2.2.2.2.2.2.1, pl_2 f1 f2 rfl rfl R.2.2.2.2.2.2.2.2.1, SI_m I.1 I.2.1 k1.1 l1 si qm d1 e8 (fz_run (by decide +kernel) r2) f2 rfl, VZ_m vs d1 e35 f1 rfl rfl f2 rfl, PI_t k1.1 l1 (Fs_z (a_rq_of k1.1.1 l1) (fz_run (by decide +kernel) r2)) (qz_run (by decide +kernel) r2) f2 rfl (PI_m I.1 I.2.1 qm (RI_p R)), rw_2 f1 f2 rfl rfl (RI_w R)⟩⟩
  refine ⟨h2, c, s, ?_, I2, by omega, by omega⟩
  refine xV_step (o1 := (292, lc_v i, [.ref 0], h, c, s)) rfl rfl rfl rfl ?_
  refine xV_arg 1 1 rfl (by omega) hL rfl rfl rfl rfl rfl rfl rfl rfl rfl rfl ?_
  refine xV_call (d := 49) rfl rfl rfl rfl (xa_c_ok (d := 49) (pc := 298) (lv := lc_v i) (nL := 8) (lc_Iq I) rfl).1 r1 ?_
  refine xV_step (o1 := (302, lc_v i, [], h1, c, s)) rfl rfl rfl rfl ?_
  refine xV_step (o1 := (303, lc_v i, [.ref 39], h1, c, s)) rfl rfl rfl rfl ?_
  refine xV_arg 1 1 rfl (by omega) hL rfl rfl rfl rfl rfl rfl rfl rfl rfl rfl ?_
  refine xV_call (d := 49) rfl rfl rfl rfl (xa_c_ok (d := 49) (pc := 309) (lv := lc_v i) (nL := 8) (hk_q k1 I.2.1) rfl).1 r2 ?_
  refine xV_step (o1 := (313, lc_v i, [], h2, c, s)) rfl rfl rfl rfl ?_
  refine xV_step (o1 := (999, lc_v i, [], h2, c, s)) rfl rfl rfl rfl ?_
  exact xV_stop
set_option maxRecDepth 100000 in
set_option maxHeartbeats 4000000 in
/-- statute -/
theorem lo_4 (hL : L ≤ 3072) (hi6 : i + 6 ≤ L) (I : lc_I h) : lo_P L xs i 316 h c s := by
  obtain ⟨⟨t, tp⟩, ⟨mem, m12, e9, e4⟩, ⟨sc, sc8, e8, e33⟩, ⟨td, td9, e10, e3⟩, ⟨vc, vc6, e35, e63⟩, e1, e11, ch, pl, si, vs, pi, rwr⟩ := I.2.2.2
  have R := I.2.2.2
  have hc : ct h (tpT h) t := ⟨tp.1, tp.2.2.1, fun k _ => (tpe_T tp).1 k⟩
  obtain ⟨v1, h1, c1, s1, r1, k1, ⟨⟨z1, A1⟩, cs, cn⟩, c2, s66⟩ := s9r_run (d := 0) (f := xs (i + 1)) I.2.1 I.2.2.1 I.1 hc e9 m12 e8 sc8 e10 td9
  have q1 := a_rq_of k1.1.1 k1.2.1
  have f1 := k1.2.2.2
  obtain ⟨v2, h2, r2, k2, -, z2⟩ := xs_run (d := 40) (f := xs (i + 1)) k1.2.1 k1.1
  have f2 := k2.2.2
  have P := st_pair (h := h) A1 (fun r hX => xq_Z (hn := (show List.Nodup [0, 1] by decide)) r2 (fun f => s10_q (f := f) (T := tpT h) (n := t) (mem := mem) (sc := sc) (td := td) (fd := xs (i + 1)) (r := r) (W := nmW (tpT h) (fun _ => (0, 0))) q1 tp.2.2.1 ((fr_g (c := 39) (k := 2) f1 rfl rfl).trans tp.2.1) (fun k hk' => ⟨((tpe_T tp).2 k hk').1, (fr_g (c := 40) (k := k) f1 rfl rfl).trans ((tpe_T tp).2 k hk').2⟩) ((fr_g (c := 39) (k := 4) f1 rfl rfl).trans e4) m12 ((fr_g (c := 39) (k := 33) f1 rfl rfl).trans e33) sc8 ((fr_g (c := 39) (k := 3) f1 rfl rfl).trans e3) td9 hX)) sc8 (e11.trans (fr_g (c := 39) (k := 13) f1 rfl rfl).symm)
  have wfx := st_fx A1 (fun r sv y s4 hX hV => by obtain ⟨one0, e45⟩ := x45 (s := sv) k1.1 k1.2.1 s4; exact xq_Z (hn := (show List.Nodup [0, 1] by decide)) r2 (fun f => s10_d (f := f) (T := tpT h) (n := t) (mem := mem) (sc := sc) (td := td) (fd := xs (i + 1)) (r := r) (W := nmW (tpT h) (fun _ => (0, 0))) q1 tp.2.2.1 ((fr_g (c := 39) (k := 2) f1 rfl rfl).trans tp.2.1) (fun k hk' => ⟨((tpe_T tp).2 k hk').1, (fr_g (c := 40) (k := k) f1 rfl rfl).trans ((tpe_T tp).2 k hk').2⟩) ((fr_g (c := 39) (k := 4) f1 rfl rfl).trans e4) m12 ((fr_g (c := 39) (k := 33) f1 rfl rfl).trans e33) sc8 ((fr_g (c := 39) (k := 3) f1 rfl rfl).trans e3) td9 hX s4 e45 hV)) cn
  have si2 : SI h2 := st_si A1 (fun r sv y s4 hX hV => by obtain ⟨one0, e45⟩ := x45 (s := sv) k1.1 k1.2.1 s4; exact xq_Z (hn := (show List.Nodup [0, 1] by decide)) r2 (fun f => s10_d (f := f) (T := tpT h) (n := t) (mem := mem) (sc := sc) (td := td) (fd := xs (i + 1)) (r := r) (W := nmW (tpT h) (fun _ => (0, 0))) q1 tp.2.2.1 ((fr_g (c := 39) (k := 2) f1 rfl rfl).trans tp.2.1) (fun k hk' => ⟨((tpe_T tp).2 k hk').1, (fr_g (c := 40) (k := k) f1 rfl rfl).trans ((tpe_T tp).2 k hk').2⟩) ((fr_g (c := 39) (k := 4) f1 rfl rfl).trans e4) m12 ((fr_g (c := 39) (k := 33) f1 rfl rfl).trans e33) sc8 ((fr_g (c := 39) (k := 3) f1 rfl rfl).trans e3) td9 hX s4 e45 hV)) I.1 I.2.1 I.2.2.1 k1.1 k1.2.1 si e9 m12 e8 sc8 td9 cs cn f1 (fun k => fr_g (c := 51) (k := k) f1 rfl rfl) (fun k => fr_g (c := 52) (k := k) f1 rfl rfl) (fun k => fr_g (c := 44) (k := k) f1 rfl rfl) ((hk_g (c := 0) (k := 9) k2 rfl rfl).trans ((fr_g (c := 0) (k := 9) f1 rfl rfl).trans e9)) (hk_g (c := 0) (k := 8) k2 rfl rfl)
  obtain ⟨rfl, ⟨x, rfl⟩, ⟨m, m8, b1, b2⟩, b3⟩ := P
  have I2 : lc_I h2 := ⟨k2.1, hk_n k2 k1.2.1, by rw [k2.2.1]; exact k1.2.2.1, ⟨⟨0, (hk_g (c := 1) (k := 1) k2 rfl rfl).trans z1, z2, by decide, fun k hk' => absurd hk' (Nat.not_lt_zero k)⟩, rb_2 f1 f2 rfl rfl rfl rfl rfl rfl R.2.1, ⟨m, m8, (hk_g (c := 0) (k := 8) k2 rfl rfl).trans b1, b2⟩, rb_2 f1 f2 rfl rfl rfl rfl rfl rfl R.2.2.2.1, rb_2 f1 f2 rfl rfl rfl rfl rfl rfl R.2.2.2.2.1, pr_2 f1 f2 rfl rfl rfl rfl rfl rfl R.2.2.2.2.2.1, (hk_g (c := 0) (k := 11) k2 rfl rfl).trans b3, ch_2 f1 f2 rfl rfl R.2.2.2.2.2.2.2.1, pl_2 f1 f2 rfl rfl R.2.2.2.2.2.2.2.2.1, si2, VZ_2 f1 f2 rfl rfl R.2.2.2.2.2.2.2.2.2.2.1, PI_w k1.1 k1.2.1 wfx f2 rfl (PI_c I.1 I.2.1 cs f1 rfl (RI_p R)), rw_2 f1 f2 rfl rfl (RI_w R)⟩⟩
  refine ⟨h2, c + c1, s + s1, ?_, I2, by omega, by omega⟩
  refine xV_step (o1 := (317, lc_v i, [.ref 0], h, c, s)) rfl rfl rfl rfl ?_
  refine xV_arg 1 1 rfl (by omega) hL rfl rfl rfl rfl rfl rfl rfl rfl rfl rfl ?_
  refine xV_call (d := 49) rfl rfl rfl rfl (xa_c_ok (d := 49) (pc := 323) (lv := lc_v i) (nL := 8) (lc_Iq I) rfl).1 r1 ?_
  refine xV_step (o1 := (327, lc_v i, [], h1, c + c1, s + s1)) rfl rfl rfl rfl ?_
  refine xV_step (o1 := (328, lc_v i, [.ref 39], h1, c + c1, s + s1)) rfl rfl rfl rfl ?_
  refine xV_arg 1 1 rfl (by omega) hL rfl rfl rfl rfl rfl rfl rfl rfl rfl rfl ?_
  refine xV_call (d := 49) rfl rfl rfl rfl (xa_c_ok (d := 49) (pc := 334) (lv := lc_v i) (nL := 8) q1 rfl).1 r2 ?_
  refine xV_step (o1 := (338, lc_v i, [], h2, c + c1, s + s1)) rfl rfl rfl rfl ?_
  refine xV_step (o1 := (999, lc_v i, [], h2, c + c1, s + s1)) rfl rfl rfl rfl ?_
  exact xV_stop
set_option maxRecDepth 100000 in
set_option maxHeartbeats 4000000 in
/-- rank -/
theorem lo_16 (hL : L ≤ 3072) (hi6 : i + 6 ≤ L) (I : lc_I h) : lo_P L xs i 655 h c s := by
  obtain ⟨⟨t, tp⟩, ⟨mem, m12, e9, e4⟩, ⟨sc, sc8, e8, e33⟩, ⟨td, td9, e10, e3⟩, ⟨vc, vc6, e35, e63⟩, e1, e11, ch, pl, si, vs, pi, rwr⟩ := I.2.2.2
  have R := I.2.2.2
  have hc : ct h (tpT h) t := ⟨tp.1, tp.2.2.1, fun k _ => (tpe_T tp).1 k⟩
  obtain ⟨v1, h1, r1, k1, -, z1⟩ := r9_run (d := 47) (m := xs (i + 1)) I.2.1 I.1
  have l1 : 72 ≤ h1.1.length := hk_n k1 I.2.1
  obtain ⟨v2, h2, r2, k2, -, z2⟩ := r10_run (d := 48) (m := xs (i + 1)) l1 k1.1
  obtain ⟨y1, d1⟩ : v1 = some (.int (bl (rkB (tpT h) t (xs (i + 1)) (nI mem)))) ∧ xg 0 h1.2.1 28 1 = cond (rkB (tpT h) t (xs (i + 1)) (nI mem)) (Int32.ofInt 1) (xg 0 h.2.1 28 1) := xq_Z (hn := (show List.Nodup [0, 1] by decide)) r1 (fun f => rk9_q (f := f) (x := xs (i + 1)) (z := nI mem) hc e9 (lc_Iq I))
  obtain ⟨y2, d2⟩ : v2 = some (.int (bl (rkB (tpT h) t (xs (i + 1)) (nI mem)))) ∧ xg 0 h2.2.1 39 5 = cond (rkB (tpT h) t (xs (i + 1)) (nI mem)) (Int32.ofInt 1) (xg 0 h1.2.1 39 5) := xq_Z (hn := (show List.Nodup [0, 1] by decide)) r2 (fun f => rk10_q (f := f) (x := xs (i + 1)) (z := nI mem) tp.2.2.1 ((hk_g (c := 39) (k := 2) k1 rfl rfl).trans tp.2.1) (fun k hk' => ⟨((tpe_T tp).2 k hk').1, (hk_g (c := 40) (k := k) k1 rfl rfl).trans ((tpe_T tp).2 k hk').2⟩) ((hk_g (c := 39) (k := 4) k1 rfl rfl).trans e4) (hk_q k1 I.2.1))
  have a1 := xq_Z (hn := (show List.Nodup [0, 1] by decide)) r1 (fun f => rk9b_q (f := f) (x := xs (i + 1)) (z := nI mem) hc e9 (lc_Iq I))
  have a2 := xq_Z (hn := (show List.Nodup [0, 1] by decide)) r2 (fun f => rk10b_q (f := f) (T := tpT h) (x := xs (i + 1)) (z := nI mem) tp.2.2.1 ((hk_g (c := 39) (k := 2) k1 rfl rfl).trans tp.2.1) (fun k hk' => ⟨((tpe_T tp).2 k hk').1, (hk_g (c := 40) (k := k) k1 rfl rfl).trans ((tpe_T tp).2 k hk').2⟩) ((hk_g (c := 39) (k := 4) k1 rfl rfl).trans e4) (hk_q k1 I.2.1))
  have pl2 : plr h2 := fun k hk' => by
    rw [hk_g (c := 30) (k := k) k2 rfl rfl, a1 k, a2 k]
    cases ((!xe_c .lt (xs (i + 1)) 0 && !xe_c .ge (xs (i + 1)) (nI mem)) && (Nat.beq t 7 && ro (tpT h) 7 0 (Int32.ofInt 0)))
    · exact (pl k hk').trans (hk_g (c := 62) (k := k) k1 rfl rfl).symm
    · exact pw_c 7 0 _ _ (fun k hk' => (pl k hk').trans (hk_g (c := 62) (k := k) k1 rfl rfl).symm) k hk'
  subst y1
  subst y2
  have f1 := k1.2.2
  have f2 := k2.2.2
  have rk2 : xg 0 h2.2.1 28 1 = xg 0 h2.2.1 39 5 := by
    rw [hk_g (c := 28) (k := 1) k2 rfl rfl, d1, d2, hk_g (c := 39) (k := 5) k1 rfl rfl, e1]
  have I2 : lc_I h2 := ⟨k2.1, hk_n k2 l1, by rw [k2.2.1, k1.2.1]; exact I.2.2.1, ⟨⟨0, (hk_g (c := 1) (k := 1) k2 rfl rfl).trans z1, z2, by decide, fun k hk' => absurd hk' (Nat.not_lt_zero k)⟩, rb_2 f1 f2 rfl rfl rfl rfl rfl rfl R.2.1, rb_2 f1 f2 rfl rfl rfl rfl rfl rfl R.2.2.1, rb_2 f1 f2 rfl rfl rfl rfl rfl rfl R.2.2.2.1, rb_2 f1 f2 rfl rfl rfl rfl rfl rfl R.2.2.2.2.1, rk2, pr_2 f1 f2 rfl rfl rfl rfl rfl rfl R.2.2.2.2.2.2.1, ch_2 f1 f2 rfl rfl R.2.2.2.2.2.2.2.1, pl2, SI_2 I.1 I.2.1 k1.1 l1 (fz_run (by decide +kernel) r1) (fz_run (by decide +kernel) r2) f1 f2 rfl rfl R.2.2.2.2.2.2.2.2.2.1, VZ_2 f1 f2 rfl rfl R.2.2.2.2.2.2.2.2.2.2.1, PI_2 I.1 I.2.1 k1.1 l1 (fz_run (by decide +kernel) r1) (qz_run (by decide +kernel) r1) f1 rfl (fz_run (by decide +kernel) r2) (qz_run (by decide +kernel) r2) f2 rfl (RI_p R), rw_2 f1 f2 rfl rfl (RI_w R)⟩⟩
  refine ⟨h2, c, s, ?_, I2, by omega, by omega⟩
  refine xV_step (o1 := (656, lc_v i, [.ref 0], h, c, s)) rfl rfl rfl rfl ?_
  refine xV_arg 1 1 rfl (by omega) hL rfl rfl rfl rfl rfl rfl rfl rfl rfl rfl ?_
  refine xV_call (d := 49) rfl rfl rfl rfl (xa_c_ok (d := 49) (pc := 662) (lv := lc_v i) (nL := 8) (lc_Iq I) rfl).1 r1 ?_
  refine xV_step (o1 := (666, lc_v i, [], h1, c, s)) rfl rfl rfl rfl ?_
  refine xV_step (o1 := (667, lc_v i, [.ref 39], h1, c, s)) rfl rfl rfl rfl ?_
  refine xV_arg 1 1 rfl (by omega) hL rfl rfl rfl rfl rfl rfl rfl rfl rfl rfl ?_
  refine xV_call (d := 49) rfl rfl rfl rfl (xa_c_ok (d := 49) (pc := 673) (lv := lc_v i) (nL := 8) (hk_q k1 I.2.1) rfl).1 r2 ?_
  refine xV_step (o1 := (677, lc_v i, [], h2, c, s)) rfl rfl rfl rfl ?_
  refine xV_step (o1 := (999, lc_v i, [], h2, c, s)) rfl rfl rfl rfl ?_
  exact xV_stop
set_option maxRecDepth 100000 in
set_option maxHeartbeats 4000000 in
/-- vote -/
theorem lo_23 (hL : L ≤ 3072) (hi6 : i + 6 ≤ L) (I : lc_I h) : lo_P L xs i 834 h c s := by
  obtain ⟨⟨t, tp⟩, ⟨mem, m12, e9, e4⟩, ⟨sc, sc8, e8, e33⟩, ⟨td, td9, e10, e3⟩, ⟨vc, vc6, e35, e63⟩, e1, e11, ch, pl, si, vs, pi, rwr⟩ := I.2.2.2
  have R := I.2.2.2
  cases c1 : xe_c .eq (xs (i + 2)) 0 with
  | true =>
    obtain ⟨v1, h1, r1, k1⟩ := lc_3 (D := 49) (C := aC_m_X9_vote) (m := xmi_X9_vote) (A := [.ref 0, .int (xs (i + 1)), .int (Int32.ofInt 0)]) I.1 I.2.1 as_m_X9_vote rfl (by decide) ⟨a_av (by decide) I.2.1, a_an, a_ai (by decide) (by decide), trivial⟩ rfl
    have l1 : 72 ≤ h1.1.length := hk_n k1 I.2.1
    obtain ⟨v2, h2, r2, k2⟩ := lc_3 (D := 49) (C := aC_m_X10_vote) (m := xmi_X10_vote) (A := [.ref 39, .int (xs (i + 1)), .int (Int32.ofInt 0)]) k1.1 l1 as_m_X10_vote rfl (by decide) ⟨a_av (by decide) l1, a_an, a_ai (by decide) (by decide), trivial⟩ rfl
    obtain ⟨rfl, d1⟩ := xq_Z (hn := (show List.Nodup [0, 1, 2] by decide)) r1 (fun f => vt9_q (f := f) (x := xs (i + 1)) (b := Int32.ofInt 0) (z := nI mem) vc6 e35 e9 (lc_Iq I))
    obtain ⟨rfl, d2⟩ := xq_Z (hn := (show List.Nodup [0, 1, 2] by decide)) r2 (fun f => vt10_q (f := f) (x := xs (i + 1)) (b := Int32.ofInt 0) (z := nI mem) vc6 ((hk_g (c := 39) (k := 63) k1 rfl rfl).trans e63) ((hk_g (c := 39) (k := 4) k1 rfl rfl).trans e4) (hk_q k1 I.2.1))
    have f1 := k1.2.2
    have f2 := k2.2.2
    have a1 := xq_Z (hn := (show List.Nodup [0, 1, 2] by decide)) r1 (fun f => vt9b_q (f := f) (x := xs (i + 1)) (b := Int32.ofInt 0) (z := nI mem) (y := nI td) vc6 e35 e9 e10 (lc_Iq I))
    have a2 := xq_Z (hn := (show List.Nodup [0, 1, 2] by decide)) r2 (fun f => vt10b_q (f := f) (x := xs (i + 1)) (b := Int32.ofInt 0) (z := nI mem) (y := nI td) vc6 ((hk_g (c := 39) (k := 63) k1 rfl rfl).trans e63) ((hk_g (c := 39) (k := 4) k1 rfl rfl).trans e4) ((hk_g (c := 39) (k := 3) k1 rfl rfl).trans e3) (hk_q k1 I.2.1))
    have ch2 : chr_ h2 := fun k hk' => by
      obtain ⟨p1, p2, p3⟩ := a1 k
      obtain ⟨u1, u2, u3⟩ := a2 k
      obtain ⟨w1, w2, w3⟩ := ch k hk'
      rw [hk_g (c := 36) (k := k) k2 rfl rfl, hk_g (c := 37) (k := k) k2 rfl rfl, hk_g (c := 38) (k := k) k2 rfl rfl, p1, p2, p3, u1, u2, u3, hk_g (c := 68) (k := k) k1 rfl rfl, hk_g (c := 69) (k := k) k1 rfl rfl, hk_g (c := 70) (k := k) k1 rfl rfl, w1, w2, w3]
      exact ⟨rfl, rfl, rfl⟩
    have vc2 : rb h2 35 3 39 63 60 := ⟨_, vt_le vc6, (hk_g (c := 35) (k := 3) k2 rfl rfl).trans d1, d2⟩
    have I2 : lc_I h2 := ⟨k2.1, hk_n k2 l1, by rw [k2.2.1, k1.2.1]; exact I.2.2.1, ⟨tp_2 f1 f2 rfl (fun _ => rfl) rfl (fun _ => rfl) rfl (fun _ => rfl) rfl (fun _ => rfl) R.1, rb_2 f1 f2 rfl rfl rfl rfl rfl rfl R.2.1, rb_2 f1 f2 rfl rfl rfl rfl rfl rfl R.2.2.1, rb_2 f1 f2 rfl rfl rfl rfl rfl rfl R.2.2.2.1, vc2, pr_2 f1 f2 rfl rfl rfl rfl rfl rfl R.2.2.2.2.2.1, pr_2 f1 f2 rfl rfl rfl rfl rfl rfl R.2.2.2.2.2.2.1, ch2, pl_2 f1 f2 rfl rfl R.2.2.2.2.2.2.2.2.1, SI_2 I.1 I.2.1 k1.1 l1 (fz_run (by decide +kernel) r1) (fz_run (by decide +kernel) r2) f1 f2 rfl rfl R.2.2.2.2.2.2.2.2.2.1, VZ_v vs m12 e9 e35 vc6 d1 (fun k => (a1 k).1) f1 rfl f2 rfl, PI_2 I.1 I.2.1 k1.1 l1 (fz_run (by decide +kernel) r1) (qz_run (by decide +kernel) r1) f1 rfl (fz_run (by decide +kernel) r2) (qz_run (by decide +kernel) r2) f2 rfl (RI_p R), rw_2 f1 f2 rfl rfl (RI_w R)⟩⟩
    refine ⟨h2, c, s, ?_, I2, by omega, by omega⟩
    refine xV_step (o1 := (835, lc_v i, [.ref 0], h, c, s)) rfl rfl rfl rfl ?_
    refine xV_arg 1 1 rfl (by omega) hL rfl rfl rfl rfl rfl rfl rfl rfl rfl rfl ?_
    refine xV_arg 2 2 rfl (by omega) hL rfl rfl rfl rfl rfl rfl rfl rfl rfl rfl ?_
    refine xV_if true rfl rfl c1 ?_
    refine xV_step (o1 := (855, lc_v i, [.int (Int32.ofInt 0), .int (xs (i + 1)), .ref 0], h, c, s)) rfl rfl rfl rfl ?_
    refine xV_call (d := 49) rfl rfl rfl rfl (xa_c_ok (d := 49) (pc := 855) (lv := lc_v i) (nL := 8) (lc_Iq I) rfl).1 r1 ?_
    refine xV_step (o1 := (859, lc_v i, [], h1, c, s)) rfl rfl rfl rfl ?_
    refine xV_step (o1 := (860, lc_v i, [.ref 39], h1, c, s)) rfl rfl rfl rfl ?_
    refine xV_arg 1 1 rfl (by omega) hL rfl rfl rfl rfl rfl rfl rfl rfl rfl rfl ?_
    refine xV_arg 2 2 rfl (by omega) hL rfl rfl rfl rfl rfl rfl rfl rfl rfl rfl ?_
    refine xV_if true rfl rfl c1 ?_
    refine xV_step (o1 := (880, lc_v i, [.int (Int32.ofInt 0), .int (xs (i + 1)), .ref 39], h1, c, s)) rfl rfl rfl rfl ?_
    refine xV_call (d := 49) rfl rfl rfl rfl (xa_c_ok (d := 49) (pc := 880) (lv := lc_v i) (nL := 8) (hk_q k1 I.2.1) rfl).1 r2 ?_
    refine xV_step (o1 := (884, lc_v i, [], h2, c, s)) rfl rfl rfl rfl ?_
    refine xV_step (o1 := (999, lc_v i, [], h2, c, s)) rfl rfl rfl rfl ?_
    exact xV_stop
  | false =>
    obtain ⟨v1, h1, r1, k1⟩ := lc_3 (D := 49) (C := aC_m_X9_vote) (m := xmi_X9_vote) (A := [.ref 0, .int (xs (i + 1)), .int (Int32.ofInt 1)]) I.1 I.2.1 as_m_X9_vote rfl (by decide) ⟨a_av (by decide) I.2.1, a_an, a_ai (by decide) (by decide), trivial⟩ rfl
    have l1 : 72 ≤ h1.1.length := hk_n k1 I.2.1
    obtain ⟨v2, h2, r2, k2⟩ := lc_3 (D := 49) (C := aC_m_X10_vote) (m := xmi_X10_vote) (A := [.ref 39, .int (xs (i + 1)), .int (Int32.ofInt 1)]) k1.1 l1 as_m_X10_vote rfl (by decide) ⟨a_av (by decide) l1, a_an, a_ai (by decide) (by decide), trivial⟩ rfl
    obtain ⟨rfl, d1⟩ := xq_Z (hn := (show List.Nodup [0, 1, 2] by decide)) r1 (fun f => vt9_q (f := f) (x := xs (i + 1)) (b := Int32.ofInt 1) (z := nI mem) vc6 e35 e9 (lc_Iq I))
    obtain ⟨rfl, d2⟩ := xq_Z (hn := (show List.Nodup [0, 1, 2] by decide)) r2 (fun f => vt10_q (f := f) (x := xs (i + 1)) (b := Int32.ofInt 1) (z := nI mem) vc6 ((hk_g (c := 39) (k := 63) k1 rfl rfl).trans e63) ((hk_g (c := 39) (k := 4) k1 rfl rfl).trans e4) (hk_q k1 I.2.1))
    have f1 := k1.2.2
    have f2 := k2.2.2
    have a1 := xq_Z (hn := (show List.Nodup [0, 1, 2] by decide)) r1 (fun f => vt9b_q (f := f) (x := xs (i + 1)) (b := Int32.ofInt 1) (z := nI mem) (y := nI td) vc6 e35 e9 e10 (lc_Iq I))
    have a2 := xq_Z (hn := (show List.Nodup [0, 1, 2] by decide)) r2 (fun f => vt10b_q (f := f) (x := xs (i + 1)) (b := Int32.ofInt 1) (z := nI mem) (y := nI td) vc6 ((hk_g (c := 39) (k := 63) k1 rfl rfl).trans e63) ((hk_g (c := 39) (k := 4) k1 rfl rfl).trans e4) ((hk_g (c := 39) (k := 3) k1 rfl rfl).trans e3) (hk_q k1 I.2.1))
    have ch2 : chr_ h2 := fun k hk' => by
      obtain ⟨p1, p2, p3⟩ := a1 k
      obtain ⟨u1, u2, u3⟩ := a2 k
      obtain ⟨w1, w2, w3⟩ := ch k hk'
      rw [hk_g (c := 36) (k := k) k2 rfl rfl, hk_g (c := 37) (k := k) k2 rfl rfl, hk_g (c := 38) (k := k) k2 rfl rfl, p1, p2, p3, u1, u2, u3, hk_g (c := 68) (k := k) k1 rfl rfl, hk_g (c := 69) (k := k) k1 rfl rfl, hk_g (c := 70) (k := k) k1 rfl rfl, w1, w2, w3]
      exact ⟨rfl, rfl, rfl⟩
    have vc2 : rb h2 35 3 39 63 60 := ⟨_, vt_le vc6, (hk_g (c := 35) (k := 3) k2 rfl rfl).trans d1, d2⟩
    have I2 : lc_I h2 := ⟨k2.1, hk_n k2 l1, by rw [k2.2.1, k1.2.1]; exact I.2.2.1, ⟨tp_2 f1 f2 rfl (fun _ => rfl) rfl (fun _ => rfl) rfl (fun _ => rfl) rfl (fun _ => rfl) R.1, rb_2 f1 f2 rfl rfl rfl rfl rfl rfl R.2.1, rb_2 f1 f2 rfl rfl rfl rfl rfl rfl R.2.2.1, rb_2 f1 f2 rfl rfl rfl rfl rfl rfl R.2.2.2.1, vc2, pr_2 f1 f2 rfl rfl rfl rfl rfl rfl R.2.2.2.2.2.1, pr_2 f1 f2 rfl rfl rfl rfl rfl rfl R.2.2.2.2.2.2.1, ch2, pl_2 f1 f2 rfl rfl R.2.2.2.2.2.2.2.2.1, SI_2 I.1 I.2.1 k1.1 l1 (fz_run (by decide +kernel) r1) (fz_run (by decide +kernel) r2) f1 f2 rfl rfl R.2.2.2.2.2.2.2.2.2.1, VZ_v vs m12 e9 e35 vc6 d1 (fun k => (a1 k).1) f1 rfl f2 rfl, PI_2 I.1 I.2.1 k1.1 l1 (fz_run (by decide +kernel) r1) (qz_run (by decide +kernel) r1) f1 rfl (fz_run (by decide +kernel) r2) (qz_run (by decide +kernel) r2) f2 rfl (RI_p R), rw_2 f1 f2 rfl rfl (RI_w R)⟩⟩
    refine ⟨h2, c, s, ?_, I2, by omega, by omega⟩
    refine xV_step (o1 := (835, lc_v i, [.ref 0], h, c, s)) rfl rfl rfl rfl ?_
    refine xV_arg 1 1 rfl (by omega) hL rfl rfl rfl rfl rfl rfl rfl rfl rfl rfl ?_
    refine xV_arg 2 2 rfl (by omega) hL rfl rfl rfl rfl rfl rfl rfl rfl rfl rfl ?_
    refine xV_if false rfl rfl c1 ?_
    refine xV_step (o1 := (851, lc_v i, [.int (Int32.ofInt 1), .int (xs (i + 1)), .ref 0], h, c, s)) rfl rfl rfl rfl ?_
    refine xV_step (o1 := (855, lc_v i, [.int (Int32.ofInt 1), .int (xs (i + 1)), .ref 0], h, c, s)) rfl rfl rfl rfl ?_
    refine xV_call (d := 49) rfl rfl rfl rfl (xa_c_ok (d := 49) (pc := 855) (lv := lc_v i) (nL := 8) (lc_Iq I) rfl).1 r1 ?_
    refine xV_step (o1 := (859, lc_v i, [], h1, c, s)) rfl rfl rfl rfl ?_
    refine xV_step (o1 := (860, lc_v i, [.ref 39], h1, c, s)) rfl rfl rfl rfl ?_
    refine xV_arg 1 1 rfl (by omega) hL rfl rfl rfl rfl rfl rfl rfl rfl rfl rfl ?_
    refine xV_arg 2 2 rfl (by omega) hL rfl rfl rfl rfl rfl rfl rfl rfl rfl rfl ?_
    refine xV_if false rfl rfl c1 ?_
    refine xV_step (o1 := (876, lc_v i, [.int (Int32.ofInt 1), .int (xs (i + 1)), .ref 39], h1, c, s)) rfl rfl rfl rfl ?_
    refine xV_step (o1 := (880, lc_v i, [.int (Int32.ofInt 1), .int (xs (i + 1)), .ref 39], h1, c, s)) rfl rfl rfl rfl ?_
    refine xV_call (d := 49) rfl rfl rfl rfl (xa_c_ok (d := 49) (pc := 880) (lv := lc_v i) (nL := 8) (hk_q k1 I.2.1) rfl).1 r2 ?_
    refine xV_step (o1 := (884, lc_v i, [], h2, c, s)) rfl rfl rfl rfl ?_
    refine xV_step (o1 := (999, lc_v i, [], h2, c, s)) rfl rfl rfl rfl ?_
    exact xV_stop
set_option maxRecDepth 100000 in
set_option maxHeartbeats 4000000 in
/-- leads -/
theorem lo_20 (hL : L ≤ 3072) (hi6 : i + 6 ≤ L) (I : lc_I h) : lo_P L xs i 743 h c s := by
  obtain ⟨⟨t, tp⟩, ⟨mem, m12, e9, e4⟩, ⟨sc, sc8, e8, e33⟩, ⟨td, td9, e10, e3⟩, ⟨vc, vc6, e35, e63⟩, e1, e11, ch, pl, si, vs, pi, rwr⟩ := I.2.2.2
  have R := I.2.2.2
  cases c1 : xe_c .eq (xs (i + 1)) 0 with
  | true =>
    have hc : ct h (tpT h) t := ⟨tp.1, tp.2.2.1, fun k _ => (tpe_T tp).1 k⟩
    obtain ⟨v1, h1, r1, ⟨k1, -⟩, z1⟩ := l9_run2 (d := 46) (f := (Int32.ofInt 0)) I.2.1 I.1
    have l1 : 72 ≤ h1.1.length := hk_n k1 I.2.1
    obtain ⟨v2, h2, r2, ⟨k2, -⟩, z2⟩ := l10_run2 (d := 46) (f := (Int32.ofInt 0)) l1 k1.1
    have sr := SI_r si e9 m12 e8 sc8
    obtain rfl := xq_Z (hn := (show List.Nodup [0, 1] by decide)) r1 (fun f => ld9_q (f := f) (b := (Int32.ofInt 0)) (PL := fun k => xg 0 h.2.1 30 k) (d := nI td) hc I.1 e9 m12 e8 sc8 e10 si (fun _ _ => rfl) (lc_Iq I))
    obtain rfl := xq_Z (hn := (show List.Nodup [0, 1] by decide)) r2 (fun f => ld10_q (f := f) (n := t) (T := tpT h) (b := (Int32.ofInt 0)) (PL := fun k => xg 0 h.2.1 30 k) (d := nI td) (FR := fun k => xg 0 h.2.1 51 k) (RW := fun k => xg 0 h.2.1 44 k) tp.2.2.1 ((hk_g (c := 39) (k := 2) k1 rfl rfl).trans tp.2.1) (fun k hk' => ⟨((tpe_T tp).2 k hk').1, (hk_g (c := 40) (k := k) k1 rfl rfl).trans ((tpe_T tp).2 k hk').2⟩) m12 ((hk_g (c := 39) (k := 4) k1 rfl rfl).trans e4) ((hk_g (c := 39) (k := 33) k1 rfl rfl).trans e33) sc8 ((hk_g (c := 39) (k := 3) k1 rfl rfl).trans e3) (fun k _ => hk_g (c := 51) (k := k) k1 rfl rfl) (fun k hk' => by rw [hk_g (c := 52) (k := k) k1 rfl rfl]; exact sr.1 k hk') (fun k s hk' hs => by obtain ⟨b, e⟩ := sr.2.1 k s hk' hs; exact ⟨b, e, (hk_g (c := 44) (k := 4096 * k + s) k1 rfl rfl).trans e⟩) (fun k hk' => (hk_g (c := 62) (k := k) k1 rfl rfl).trans (pl k hk').symm) (hk_q k1 I.2.1))
    have f1 := k1.2.2
    have f2 := k2.2.2
    have I2 : lc_I h2 := ⟨k2.1, hk_n k2 l1, by rw [k2.2.1, k1.2.1]; exact I.2.2.1, ⟨⟨0, (hk_g (c := 1) (k := 1) k2 rfl rfl).trans z1, z2, by decide, fun k hk' => absurd hk' (Nat.not_lt_zero k)⟩, rb_2 f1 f2 rfl rfl rfl rfl rfl rfl R.2.1, rb_2 f1 f2 rfl rfl rfl rfl rfl rfl R.2.2.1, rb_2 f1 f2 rfl rfl rfl rfl rfl rfl R.2.2.2.1, rb_2 f1 f2 rfl rfl rfl rfl rfl rfl R.2.2.2.2.1, pr_2 f1 f2 rfl rfl rfl rfl rfl rfl R.2.2.2.2.2.1, pr_2 f1 f2 rfl rfl rfl rfl rfl rfl R.2.2.2.2.2.2.1, ch_2 f1 f2 rfl rfl R.2.2.2.2.2.2.2.1, pl_2 f1 f2 rfl rfl R.2.2.2.2.2.2.2.2.1, SI_2 I.1 I.2.1 k1.1 l1 (fz_run (by decide +kernel) r1) (fz_run (by decide +kernel) r2) f1 f2 rfl rfl R.2.2.2.2.2.2.2.2.2.1, VZ_2 f1 f2 rfl rfl R.2.2.2.2.2.2.2.2.2.2.1, PI_2 I.1 I.2.1 k1.1 l1 (fz_run (by decide +kernel) r1) (qz_run (by decide +kernel) r1) f1 rfl (fz_run (by decide +kernel) r2) (qz_run (by decide +kernel) r2) f2 rfl (RI_p R), rw_2 f1 f2 rfl rfl (RI_w R)⟩⟩
    refine ⟨h2, c, s, ?_, I2, by omega, by omega⟩
    refine xV_step (o1 := (744, lc_v i, [.ref 0], h, c, s)) rfl rfl rfl rfl ?_
    refine xV_arg 1 1 rfl (by omega) hL rfl rfl rfl rfl rfl rfl rfl rfl rfl rfl ?_
    refine xV_if true rfl rfl c1 ?_
    refine xV_step (o1 := (758, lc_v i, [.int (Int32.ofInt 0), .ref 0], h, c, s)) rfl rfl rfl rfl ?_
    refine xV_call (d := 49) rfl rfl rfl rfl (xa_c_ok (d := 49) (pc := 758) (lv := lc_v i) (nL := 8) (lc_Iq I) rfl).1 r1 ?_
    refine xV_step (o1 := (762, lc_v i, [], h1, c, s)) rfl rfl rfl rfl ?_
    refine xV_step (o1 := (763, lc_v i, [.ref 39], h1, c, s)) rfl rfl rfl rfl ?_
    refine xV_arg 1 1 rfl (by omega) hL rfl rfl rfl rfl rfl rfl rfl rfl rfl rfl ?_
    refine xV_if true rfl rfl c1 ?_
    refine xV_step (o1 := (777, lc_v i, [.int (Int32.ofInt 0), .ref 39], h1, c, s)) rfl rfl rfl rfl ?_
    refine xV_call (d := 49) rfl rfl rfl rfl (xa_c_ok (d := 49) (pc := 777) (lv := lc_v i) (nL := 8) (hk_q k1 I.2.1) rfl).1 r2 ?_
    refine xV_step (o1 := (781, lc_v i, [], h2, c, s)) rfl rfl rfl rfl ?_
    refine xV_step (o1 := (999, lc_v i, [], h2, c, s)) rfl rfl rfl rfl ?_
    exact xV_stop
  | false =>
    have hc : ct h (tpT h) t := ⟨tp.1, tp.2.2.1, fun k _ => (tpe_T tp).1 k⟩
    obtain ⟨v1, h1, r1, ⟨k1, -⟩, z1⟩ := l9_run2 (d := 46) (f := (Int32.ofInt 1)) I.2.1 I.1
    have l1 : 72 ≤ h1.1.length := hk_n k1 I.2.1
    obtain ⟨v2, h2, r2, ⟨k2, -⟩, z2⟩ := l10_run2 (d := 46) (f := (Int32.ofInt 1)) l1 k1.1
    have sr := SI_r si e9 m12 e8 sc8
    obtain rfl := xq_Z (hn := (show List.Nodup [0, 1] by decide)) r1 (fun f => ld9_q (f := f) (b := (Int32.ofInt 1)) (PL := fun k => xg 0 h.2.1 30 k) (d := nI td) hc I.1 e9 m12 e8 sc8 e10 si (fun _ _ => rfl) (lc_Iq I))
    obtain rfl := xq_Z (hn := (show List.Nodup [0, 1] by decide)) r2 (fun f => ld10_q (f := f) (n := t) (T := tpT h) (b := (Int32.ofInt 1)) (PL := fun k => xg 0 h.2.1 30 k) (d := nI td) (FR := fun k => xg 0 h.2.1 51 k) (RW := fun k => xg 0 h.2.1 44 k) tp.2.2.1 ((hk_g (c := 39) (k := 2) k1 rfl rfl).trans tp.2.1) (fun k hk' => ⟨((tpe_T tp).2 k hk').1, (hk_g (c := 40) (k := k) k1 rfl rfl).trans ((tpe_T tp).2 k hk').2⟩) m12 ((hk_g (c := 39) (k := 4) k1 rfl rfl).trans e4) ((hk_g (c := 39) (k := 33) k1 rfl rfl).trans e33) sc8 ((hk_g (c := 39) (k := 3) k1 rfl rfl).trans e3) (fun k _ => hk_g (c := 51) (k := k) k1 rfl rfl) (fun k hk' => by rw [hk_g (c := 52) (k := k) k1 rfl rfl]; exact sr.1 k hk') (fun k s hk' hs => by obtain ⟨b, e⟩ := sr.2.1 k s hk' hs; exact ⟨b, e, (hk_g (c := 44) (k := 4096 * k + s) k1 rfl rfl).trans e⟩) (fun k hk' => (hk_g (c := 62) (k := k) k1 rfl rfl).trans (pl k hk').symm) (hk_q k1 I.2.1))
    have f1 := k1.2.2
    have f2 := k2.2.2
    have I2 : lc_I h2 := ⟨k2.1, hk_n k2 l1, by rw [k2.2.1, k1.2.1]; exact I.2.2.1, ⟨⟨0, (hk_g (c := 1) (k := 1) k2 rfl rfl).trans z1, z2, by decide, fun k hk' => absurd hk' (Nat.not_lt_zero k)⟩, rb_2 f1 f2 rfl rfl rfl rfl rfl rfl R.2.1, rb_2 f1 f2 rfl rfl rfl rfl rfl rfl R.2.2.1, rb_2 f1 f2 rfl rfl rfl rfl rfl rfl R.2.2.2.1, rb_2 f1 f2 rfl rfl rfl rfl rfl rfl R.2.2.2.2.1, pr_2 f1 f2 rfl rfl rfl rfl rfl rfl R.2.2.2.2.2.1, pr_2 f1 f2 rfl rfl rfl rfl rfl rfl R.2.2.2.2.2.2.1, ch_2 f1 f2 rfl rfl R.2.2.2.2.2.2.2.1, pl_2 f1 f2 rfl rfl R.2.2.2.2.2.2.2.2.1, SI_2 I.1 I.2.1 k1.1 l1 (fz_run (by decide +kernel) r1) (fz_run (by decide +kernel) r2) f1 f2 rfl rfl R.2.2.2.2.2.2.2.2.2.1, VZ_2 f1 f2 rfl rfl R.2.2.2.2.2.2.2.2.2.2.1, PI_2 I.1 I.2.1 k1.1 l1 (fz_run (by decide +kernel) r1) (qz_run (by decide +kernel) r1) f1 rfl (fz_run (by decide +kernel) r2) (qz_run (by decide +kernel) r2) f2 rfl (RI_p R), rw_2 f1 f2 rfl rfl (RI_w R)⟩⟩
    refine ⟨h2, c, s, ?_, I2, by omega, by omega⟩
    refine xV_step (o1 := (744, lc_v i, [.ref 0], h, c, s)) rfl rfl rfl rfl ?_
    refine xV_arg 1 1 rfl (by omega) hL rfl rfl rfl rfl rfl rfl rfl rfl rfl rfl ?_
    refine xV_if false rfl rfl c1 ?_
    refine xV_step (o1 := (754, lc_v i, [.int (Int32.ofInt 1), .ref 0], h, c, s)) rfl rfl rfl rfl ?_
    refine xV_step (o1 := (758, lc_v i, [.int (Int32.ofInt 1), .ref 0], h, c, s)) rfl rfl rfl rfl ?_
    refine xV_call (d := 49) rfl rfl rfl rfl (xa_c_ok (d := 49) (pc := 758) (lv := lc_v i) (nL := 8) (lc_Iq I) rfl).1 r1 ?_
    refine xV_step (o1 := (762, lc_v i, [], h1, c, s)) rfl rfl rfl rfl ?_
    refine xV_step (o1 := (763, lc_v i, [.ref 39], h1, c, s)) rfl rfl rfl rfl ?_
    refine xV_arg 1 1 rfl (by omega) hL rfl rfl rfl rfl rfl rfl rfl rfl rfl rfl ?_
    refine xV_if false rfl rfl c1 ?_
    refine xV_step (o1 := (773, lc_v i, [.int (Int32.ofInt 1), .ref 39], h1, c, s)) rfl rfl rfl rfl ?_
    refine xV_step (o1 := (777, lc_v i, [.int (Int32.ofInt 1), .ref 39], h1, c, s)) rfl rfl rfl rfl ?_
    refine xV_call (d := 49) rfl rfl rfl rfl (xa_c_ok (d := 49) (pc := 777) (lv := lc_v i) (nL := 8) (hk_q k1 I.2.1) rfl).1 r2 ?_
    refine xV_step (o1 := (781, lc_v i, [], h2, c, s)) rfl rfl rfl rfl ?_
    refine xV_step (o1 := (999, lc_v i, [], h2, c, s)) rfl rfl rfl rfl ?_
    exact xV_stop
set_option maxRecDepth 100000 in
set_option maxHeartbeats 4000000 in
/-- carries -/
theorem lo_6 (hL : L ≤ 3072) (hi6 : i + 6 ≤ L) (I : lc_I h) : lo_P L xs i 354 h c s := by
  obtain ⟨⟨t, tp⟩, ⟨mem, m12, e9, e4⟩, ⟨sc, sc8, e8, e33⟩, ⟨td, td9, e10, e3⟩, ⟨vc, vc6, e35, e63⟩, e1, e11, ch, pl, si, vs, pi, rwr⟩ := I.2.2.2
  have R := I.2.2.2
  obtain ⟨v1, h1, r1, k1⟩ := lc_3 (D := 49) (C := aC_m_X9_carries) (m := xmi_X9_carries) (A := [.ref 0, .int (xs (i + 1)), .int (xs (i + 2))]) I.1 I.2.1 as_m_X9_carries rfl (by decide) ⟨a_av (by decide) I.2.1, a_an, a_an, trivial⟩ rfl
  have l1 : 72 ≤ h1.1.length := hk_n k1 I.2.1
  obtain ⟨v2, h2, r2, k2⟩ := lc_3 (D := 49) (C := aC_m_X10_carries) (m := xmi_X10_carries) (A := [.ref 39, .int (xs (i + 1)), .int (xs (i + 2))]) k1.1 l1 as_m_X10_carries rfl (by decide) ⟨a_av (by decide) l1, a_an, a_an, trivial⟩ rfl
  have sr := SI_r si e9 m12 e8 sc8
  obtain rfl := xq_Z (hn := (show List.Nodup [0, 1, 2] by decide)) r1 (fun f => ca9_q (f := f) (x := xs (i + 1)) (d := xs (i + 2)) I.1 e9 m12 e8 sc8 si (lc_Iq I))
  obtain rfl := xq_Z (hn := (show List.Nodup [0, 1, 2] by decide)) r2 (fun f => ca10_q (f := f) (x := xs (i + 1)) (d := xs (i + 2)) (FR := fun k => xg 0 h.2.1 51 k) (RW := fun k => xg 0 h.2.1 44 k) ((hk_g (c := 39) (k := 4) k1 rfl rfl).trans e4) m12 ((hk_g (c := 39) (k := 33) k1 rfl rfl).trans e33) sc8 (fun k _ => hk_g (c := 51) (k := k) k1 rfl rfl) (fun k hk' => by rw [hk_g (c := 52) (k := k) k1 rfl rfl]; exact sr.1 k hk') (fun k s hk' hs => by obtain ⟨b, e⟩ := sr.2.1 k s hk' hs; exact ⟨b, e, (hk_g (c := 44) (k := 4096 * k + s) k1 rfl rfl).trans e⟩) (hk_q k1 I.2.1))
  have f1 := k1.2.2
  have f2 := k2.2.2
  have I2 : lc_I h2 := ⟨k2.1, hk_n k2 l1, by rw [k2.2.1, k1.2.1]; exact I.2.2.1, ⟨tp_2 f1 f2 rfl (fun _ => rfl) rfl (fun _ => rfl) rfl (fun _ => rfl) rfl (fun _ => rfl) R.1, rb_2 f1 f2 rfl rfl rfl rfl rfl rfl R.2.1, rb_2 f1 f2 rfl rfl rfl rfl rfl rfl R.2.2.1, rb_2 f1 f2 rfl rfl rfl rfl rfl rfl R.2.2.2.1, rb_2 f1 f2 rfl rfl rfl rfl rfl rfl R.2.2.2.2.1, pr_2 f1 f2 rfl rfl rfl rfl rfl rfl R.2.2.2.2.2.1, pr_2 f1 f2 rfl rfl rfl rfl rfl rfl R.2.2.2.2.2.2.1, ch_2 f1 f2 rfl rfl R.2.2.2.2.2.2.2.1, pl_2 f1 f2 rfl rfl R.2.2.2.2.2.2.2.2.1, SI_2 I.1 I.2.1 k1.1 l1 (fz_run (by decide +kernel) r1) (fz_run (by decide +kernel) r2) f1 f2 rfl rfl R.2.2.2.2.2.2.2.2.2.1, VZ_2 f1 f2 rfl rfl R.2.2.2.2.2.2.2.2.2.2.1, PI_2 I.1 I.2.1 k1.1 l1 (fz_run (by decide +kernel) r1) (qz_run (by decide +kernel) r1) f1 rfl (fz_run (by decide +kernel) r2) (qz_run (by decide +kernel) r2) f2 rfl (RI_p R), rw_2 f1 f2 rfl rfl (RI_w R)⟩⟩
  refine ⟨h2, c, s, ?_, I2, by omega, by omega⟩
  refine xV_step (o1 := (355, lc_v i, [.ref 0], h, c, s)) rfl rfl rfl rfl ?_
  refine xV_arg 1 1 rfl (by omega) hL rfl rfl rfl rfl rfl rfl rfl rfl rfl rfl ?_
  refine xV_arg 2 2 rfl (by omega) hL rfl rfl rfl rfl rfl rfl rfl rfl rfl rfl ?_
  refine xV_call (d := 49) rfl rfl rfl rfl (xa_c_ok (d := 49) (pc := 367) (lv := lc_v i) (nL := 8) (lc_Iq I) rfl).1 r1 ?_
  refine xV_step (o1 := (371, lc_v i, [], h1, c, s)) rfl rfl rfl rfl ?_
  refine xV_step (o1 := (372, lc_v i, [.ref 39], h1, c, s)) rfl rfl rfl rfl ?_
  refine xV_arg 1 1 rfl (by omega) hL rfl rfl rfl rfl rfl rfl rfl rfl rfl rfl ?_
  refine xV_arg 2 2 rfl (by omega) hL rfl rfl rfl rfl rfl rfl rfl rfl rfl rfl ?_
  refine xV_call (d := 49) rfl rfl rfl rfl (xa_c_ok (d := 49) (pc := 384) (lv := lc_v i) (nL := 8) (hk_q k1 I.2.1) rfl).1 r2 ?_
  refine xV_step (o1 := (388, lc_v i, [], h2, c, s)) rfl rfl rfl rfl ?_
  refine xV_step (o1 := (999, lc_v i, [], h2, c, s)) rfl rfl rfl rfl ?_
  exact xV_stop
set_option maxRecDepth 100000 in
set_option maxHeartbeats 4000000 in
/-- unfit -/
theorem lo_24 (hL : L ≤ 3072) (hi6 : i + 6 ≤ L) (I : lc_I h) : lo_P L xs i 887 h c s := by
  obtain ⟨⟨t, tp⟩, ⟨mem, m12, e9, e4⟩, ⟨sc, sc8, e8, e33⟩, ⟨td, td9, e10, e3⟩, ⟨vc, vc6, e35, e63⟩, e1, e11, ch, pl, si, vs, pi, rwr⟩ := I.2.2.2
  have R := I.2.2.2
  obtain ⟨v1, h1, r1, k1⟩ := lc_3 (D := 49) (C := aC_m_X9_unfit) (m := xmi_X9_unfit) (A := [.ref 0, .int (xs (i + 1))]) I.1 I.2.1 as_m_X9_unfit rfl (by decide) ⟨a_av (by decide) I.2.1, a_an, trivial⟩ rfl
  have l1 : 72 ≤ h1.1.length := hk_n k1 I.2.1
  obtain ⟨v2, h2, r2, k2⟩ := lc_3 (D := 49) (C := aC_m_X10_unfit) (m := xmi_X10_unfit) (A := [.ref 39, .int (xs (i + 1))]) k1.1 l1 as_m_X10_unfit rfl (by decide) ⟨a_av (by decide) l1, a_an, trivial⟩ rfl
  have sr := SI_r si e9 m12 e8 sc8
  obtain rfl := xq_Z (hn := (show List.Nodup [0, 1] by decide)) r1 (fun f => uf9_q (f := f) (S := fun k => xg 0 h.2.1 36 k) (D := fun k => xg 0 h.2.1 37 k) (P := fun k => xg 0 h.2.1 38 k) (t := xs (i + 1)) I.1 e9 m12 e8 sc8 si vc6 e35 (fun _ _ => ⟨rfl, rfl, rfl⟩) (vs mem vc e9 m12 e35 vc6) (lc_Iq I))
  obtain rfl := xq_Z (hn := (show List.Nodup [0, 1] by decide)) r2 (fun f => uf10_q (f := f) (S := fun k => xg 0 h.2.1 36 k) (D := fun k => xg 0 h.2.1 37 k) (P := fun k => xg 0 h.2.1 38 k) (t := xs (i + 1)) (FR := fun k => xg 0 h.2.1 51 k) (TD := fun k => xg 0 h.2.1 52 k) (RW := fun k => xg 0 h.2.1 44 k) ((hk_g (c := 39) (k := 4) k1 rfl rfl).trans e4) m12 ((hk_g (c := 39) (k := 33) k1 rfl rfl).trans e33) sc8 (fun k _ => hk_g (c := 51) (k := k) k1 rfl rfl) (fun k hk' => ⟨hk_g (c := 52) (k := k) k1 rfl rfl, sr.2.2 k hk'⟩) (fun k s hk' hs => by obtain ⟨b, e⟩ := sr.2.1 k s hk' hs; exact ⟨b, e, (hk_g (c := 44) (k := 4096 * k + s) k1 rfl rfl).trans e⟩) vc6 ((hk_g (c := 39) (k := 63) k1 rfl rfl).trans e63) (fun k hk' => by obtain ⟨w1, w2, w3⟩ := ch k (by omega); exact ⟨(hk_g (c := 68) (k := k) k1 rfl rfl).trans w1.symm, (hk_g (c := 69) (k := k) k1 rfl rfl).trans w2.symm, (hk_g (c := 70) (k := k) k1 rfl rfl).trans w3.symm⟩) (vs mem vc e9 m12 e35 vc6) (hk_q k1 I.2.1))
  have f1 := k1.2.2
  have f2 := k2.2.2
  have I2 : lc_I h2 := ⟨k2.1, hk_n k2 l1, by rw [k2.2.1, k1.2.1]; exact I.2.2.1, ⟨tp_2 f1 f2 rfl (fun _ => rfl) rfl (fun _ => rfl) rfl (fun _ => rfl) rfl (fun _ => rfl) R.1, rb_2 f1 f2 rfl rfl rfl rfl rfl rfl R.2.1, rb_2 f1 f2 rfl rfl rfl rfl rfl rfl R.2.2.1, rb_2 f1 f2 rfl rfl rfl rfl rfl rfl R.2.2.2.1, rb_2 f1 f2 rfl rfl rfl rfl rfl rfl R.2.2.2.2.1, pr_2 f1 f2 rfl rfl rfl rfl rfl rfl R.2.2.2.2.2.1, pr_2 f1 f2 rfl rfl rfl rfl rfl rfl R.2.2.2.2.2.2.1, ch_2 f1 f2 rfl rfl R.2.2.2.2.2.2.2.1, pl_2 f1 f2 rfl rfl R.2.2.2.2.2.2.2.2.1, SI_2 I.1 I.2.1 k1.1 l1 (fz_run (by decide +kernel) r1) (fz_run (by decide +kernel) r2) f1 f2 rfl rfl R.2.2.2.2.2.2.2.2.2.1, VZ_2 f1 f2 rfl rfl R.2.2.2.2.2.2.2.2.2.2.1, PI_2 I.1 I.2.1 k1.1 l1 (fz_run (by decide +kernel) r1) (qz_run (by decide +kernel) r1) f1 rfl (fz_run (by decide +kernel) r2) (qz_run (by decide +kernel) r2) f2 rfl (RI_p R), rw_2 f1 f2 rfl rfl (RI_w R)⟩⟩
  refine ⟨h2, c, s, ?_, I2, by omega, by omega⟩
  refine xV_step (o1 := (888, lc_v i, [.ref 0], h, c, s)) rfl rfl rfl rfl ?_
  refine xV_arg 1 1 rfl (by omega) hL rfl rfl rfl rfl rfl rfl rfl rfl rfl rfl ?_
  refine xV_call (d := 49) rfl rfl rfl rfl (xa_c_ok (d := 49) (pc := 894) (lv := lc_v i) (nL := 8) (lc_Iq I) rfl).1 r1 ?_
  refine xV_step (o1 := (898, lc_v i, [], h1, c, s)) rfl rfl rfl rfl ?_
  refine xV_step (o1 := (899, lc_v i, [.ref 39], h1, c, s)) rfl rfl rfl rfl ?_
  refine xV_arg 1 1 rfl (by omega) hL rfl rfl rfl rfl rfl rfl rfl rfl rfl rfl ?_
  refine xV_call (d := 49) rfl rfl rfl rfl (xa_c_ok (d := 49) (pc := 905) (lv := lc_v i) (nL := 8) (hk_q k1 I.2.1) rfl).1 r2 ?_
  refine xV_step (o1 := (909, lc_v i, [], h2, c, s)) rfl rfl rfl rfl ?_
  refine xV_step (o1 := (999, lc_v i, [], h2, c, s)) rfl rfl rfl rfl ?_
  exact xV_stop
set_option maxRecDepth 100000 in
set_option maxHeartbeats 4000000 in
/-- beats -/
theorem lo_17 (hL : L ≤ 3072) (hi6 : i + 6 ≤ L) (I : lc_I h) : lo_P L xs i 680 h c s := by
  obtain ⟨⟨t, tp⟩, ⟨mem, m12, e9, e4⟩, ⟨sc, sc8, e8, e33⟩, ⟨td, td9, e10, e3⟩, ⟨vc, vc6, e35, e63⟩, e1, e11, ch, pl, si, vs, pi, rwr⟩ := I.2.2.2
  have R := I.2.2.2
  obtain ⟨v1, h1, r1, k1⟩ := lc_3 (D := 49) (C := aC_m_X9_beats) (m := xmi_X9_beats) (A := [.ref 0, .int (xs (i + 1)), .int (xs (i + 2))]) I.1 I.2.1 as_m_X9_beats rfl (by decide) ⟨a_av (by decide) I.2.1, a_an, a_an, trivial⟩ rfl
  have l1 : 72 ≤ h1.1.length := hk_n k1 I.2.1
  obtain ⟨v2, h2, r2, k2⟩ := lc_3 (D := 49) (C := aC_m_X10_beats) (m := xmi_X10_beats) (A := [.ref 39, .int (xs (i + 1)), .int (xs (i + 2))]) k1.1 l1 as_m_X10_beats rfl (by decide) ⟨a_av (by decide) l1, a_an, a_an, trivial⟩ rfl
  have sr := SI_r si e9 m12 e8 sc8
  obtain rfl := xq_Z (hn := (show List.Nodup [0, 1, 2] by decide)) r1 (fun f => be9_q (f := f) (x := xs (i + 1)) (y := xs (i + 2)) (PL := fun k => xg 0 h.2.1 30 k) (d := nI td) I.1 e9 m12 e8 sc8 e10 si (fun _ _ => rfl) (lc_Iq I))
  obtain rfl := xq_Z (hn := (show List.Nodup [0, 1, 2] by decide)) r2 (fun f => be10_q (f := f) (x := xs (i + 1)) (y := xs (i + 2)) (PL := fun k => xg 0 h.2.1 30 k) (d := nI td) (FR := fun k => xg 0 h.2.1 51 k) (RW := fun k => xg 0 h.2.1 44 k) m12 ((hk_g (c := 39) (k := 4) k1 rfl rfl).trans e4) ((hk_g (c := 39) (k := 33) k1 rfl rfl).trans e33) sc8 ((hk_g (c := 39) (k := 3) k1 rfl rfl).trans e3) (fun k _ => hk_g (c := 51) (k := k) k1 rfl rfl) (fun k hk' => by rw [hk_g (c := 52) (k := k) k1 rfl rfl]; exact sr.1 k hk') (fun k s hk' hs => by obtain ⟨b, e⟩ := sr.2.1 k s hk' hs; exact ⟨b, e, (hk_g (c := 44) (k := 4096 * k + s) k1 rfl rfl).trans e⟩) (fun k hk' => (hk_g (c := 62) (k := k) k1 rfl rfl).trans (pl k hk').symm) (hk_q k1 I.2.1))
  have f1 := k1.2.2
  have f2 := k2.2.2
  have I2 : lc_I h2 := ⟨k2.1, hk_n k2 l1, by rw [k2.2.1, k1.2.1]; exact I.2.2.1, ⟨tp_2 f1 f2 rfl (fun _ => rfl) rfl (fun _ => rfl) rfl (fun _ => rfl) rfl (fun _ => rfl) R.1, rb_2 f1 f2 rfl rfl rfl rfl rfl rfl R.2.1, rb_2 f1 f2 rfl rfl rfl rfl rfl rfl R.2.2.1, rb_2 f1 f2 rfl rfl rfl rfl rfl rfl R.2.2.2.1, rb_2 f1 f2 rfl rfl rfl rfl rfl rfl R.2.2.2.2.1, pr_2 f1 f2 rfl rfl rfl rfl rfl rfl R.2.2.2.2.2.1, pr_2 f1 f2 rfl rfl rfl rfl rfl rfl R.2.2.2.2.2.2.1, ch_2 f1 f2 rfl rfl R.2.2.2.2.2.2.2.1, pl_2 f1 f2 rfl rfl R.2.2.2.2.2.2.2.2.1, SI_2 I.1 I.2.1 k1.1 l1 (fz_run (by decide +kernel) r1) (fz_run (by decide +kernel) r2) f1 f2 rfl rfl R.2.2.2.2.2.2.2.2.2.1, VZ_2 f1 f2 rfl rfl R.2.2.2.2.2.2.2.2.2.2.1, PI_2 I.1 I.2.1 k1.1 l1 (fz_run (by decide +kernel) r1) (qz_run (by decide +kernel) r1) f1 rfl (fz_run (by decide +kernel) r2) (qz_run (by decide +kernel) r2) f2 rfl (RI_p R), rw_2 f1 f2 rfl rfl (RI_w R)⟩⟩
  refine ⟨h2, c, s, ?_, I2, by omega, by omega⟩
  refine xV_step (o1 := (681, lc_v i, [.ref 0], h, c, s)) rfl rfl rfl rfl ?_
  refine xV_arg 1 1 rfl (by omega) hL rfl rfl rfl rfl rfl rfl rfl rfl rfl rfl ?_
  refine xV_arg 2 2 rfl (by omega) hL rfl rfl rfl rfl rfl rfl rfl rfl rfl rfl ?_
  refine xV_call (d := 49) rfl rfl rfl rfl (xa_c_ok (d := 49) (pc := 693) (lv := lc_v i) (nL := 8) (lc_Iq I) rfl).1 r1 ?_
  refine xV_step (o1 := (697, lc_v i, [], h1, c, s)) rfl rfl rfl rfl ?_
  refine xV_step (o1 := (698, lc_v i, [.ref 39], h1, c, s)) rfl rfl rfl rfl ?_
  refine xV_arg 1 1 rfl (by omega) hL rfl rfl rfl rfl rfl rfl rfl rfl rfl rfl ?_
  refine xV_arg 2 2 rfl (by omega) hL rfl rfl rfl rfl rfl rfl rfl rfl rfl rfl ?_
  refine xV_call (d := 49) rfl rfl rfl rfl (xa_c_ok (d := 49) (pc := 710) (lv := lc_v i) (nL := 8) (hk_q k1 I.2.1) rfl).1 r2 ?_
  refine xV_step (o1 := (714, lc_v i, [], h2, c, s)) rfl rfl rfl rfl ?_
  refine xV_step (o1 := (999, lc_v i, [], h2, c, s)) rfl rfl rfl rfl ?_
  exact xV_stop
set_option maxRecDepth 100000 in
set_option maxHeartbeats 4000000 in
/-- free -/
theorem lo_18 (hL : L ≤ 3072) (hi6 : i + 6 ≤ L) (I : lc_I h) : lo_P L xs i 717 h c s := by
  obtain ⟨⟨t, tp⟩, ⟨mem, m12, e9, e4⟩, ⟨sc, sc8, e8, e33⟩, ⟨td, td9, e10, e3⟩, ⟨vc, vc6, e35, e63⟩, e1, e11, ch, pl, si, vs, pi, rwr⟩ := I.2.2.2
  have R := I.2.2.2
  obtain ⟨v1, h1, r1, k1⟩ := lc_3 (D := 49) (C := aC_m_X9_free) (m := xmi_X9_free) (A := [.ref 0]) I.1 I.2.1 as_m_X9_free rfl (by decide) ⟨a_av (by decide) I.2.1, trivial⟩ rfl
  have l1 : 72 ≤ h1.1.length := hk_n k1 I.2.1
  obtain ⟨v2, h2, r2, k2⟩ := lc_3 (D := 49) (C := aC_m_X10_free) (m := xmi_X10_free) (A := [.ref 39]) k1.1 l1 as_m_X10_free rfl (by decide) ⟨a_av (by decide) l1, trivial⟩ rfl
  have sr := SI_r si e9 m12 e8 sc8
  obtain rfl := xq_Z (hn := (show List.Nodup [0] by decide)) r1 (fun f => fr9_q (f := f) (PL := fun k => xg 0 h.2.1 30 k) (d := nI td) I.1 e9 m12 e8 sc8 e10 si (fun _ _ => rfl) (lc_Iq I))
  obtain rfl := xq_Z (hn := (show List.Nodup [0] by decide)) r2 (fun f => fr10_q (f := f) (PL := fun k => xg 0 h.2.1 30 k) (d := nI td) (FR := fun k => xg 0 h.2.1 51 k) (RW := fun k => xg 0 h.2.1 44 k) m12 ((hk_g (c := 39) (k := 4) k1 rfl rfl).trans e4) ((hk_g (c := 39) (k := 33) k1 rfl rfl).trans e33) sc8 ((hk_g (c := 39) (k := 3) k1 rfl rfl).trans e3) (fun k _ => hk_g (c := 51) (k := k) k1 rfl rfl) (fun k hk' => by rw [hk_g (c := 52) (k := k) k1 rfl rfl]; exact sr.1 k hk') (fun k s hk' hs => by obtain ⟨b, e⟩ := sr.2.1 k s hk' hs; exact ⟨b, e, (hk_g (c := 44) (k := 4096 * k + s) k1 rfl rfl).trans e⟩) (fun k hk' => (hk_g (c := 62) (k := k) k1 rfl rfl).trans (pl k hk').symm) (hk_q k1 I.2.1))
  have f1 := k1.2.2
  have f2 := k2.2.2
  have I2 : lc_I h2 := ⟨k2.1, hk_n k2 l1, by rw [k2.2.1, k1.2.1]; exact I.2.2.1, ⟨tp_2 f1 f2 rfl (fun _ => rfl) rfl (fun _ => rfl) rfl (fun _ => rfl) rfl (fun _ => rfl) R.1, rb_2 f1 f2 rfl rfl rfl rfl rfl rfl R.2.1, rb_2 f1 f2 rfl rfl rfl rfl rfl rfl R.2.2.1, rb_2 f1 f2 rfl rfl rfl rfl rfl rfl R.2.2.2.1, rb_2 f1 f2 rfl rfl rfl rfl rfl rfl R.2.2.2.2.1, pr_2 f1 f2 rfl rfl rfl rfl rfl rfl R.2.2.2.2.2.1, pr_2 f1 f2 rfl rfl rfl rfl rfl rfl R.2.2.2.2.2.2.1, ch_2 f1 f2 rfl rfl R.2.2.2.2.2.2.2.1, pl_2 f1 f2 rfl rfl R.2.2.2.2.2.2.2.2.1, SI_2 I.1 I.2.1 k1.1 l1 (fz_run (by decide +kernel) r1) (fz_run (by decide +kernel) r2) f1 f2 rfl rfl R.2.2.2.2.2.2.2.2.2.1, VZ_2 f1 f2 rfl rfl R.2.2.2.2.2.2.2.2.2.2.1, PI_2 I.1 I.2.1 k1.1 l1 (fz_run (by decide +kernel) r1) (qz_run (by decide +kernel) r1) f1 rfl (fz_run (by decide +kernel) r2) (qz_run (by decide +kernel) r2) f2 rfl (RI_p R), rw_2 f1 f2 rfl rfl (RI_w R)⟩⟩
  refine ⟨h2, c, s, ?_, I2, by omega, by omega⟩
  refine xV_step (o1 := (718, lc_v i, [.ref 0], h, c, s)) rfl rfl rfl rfl ?_
  refine xV_call (d := 49) rfl rfl rfl rfl (xa_c_ok (d := 49) (pc := 718) (lv := lc_v i) (nL := 8) (lc_Iq I) rfl).1 r1 ?_
  refine xV_step (o1 := (722, lc_v i, [], h1, c, s)) rfl rfl rfl rfl ?_
  refine xV_step (o1 := (723, lc_v i, [.ref 39], h1, c, s)) rfl rfl rfl rfl ?_
  refine xV_call (d := 49) rfl rfl rfl rfl (xa_c_ok (d := 49) (pc := 723) (lv := lc_v i) (nL := 8) (hk_q k1 I.2.1) rfl).1 r2 ?_
  refine xV_step (o1 := (727, lc_v i, [], h2, c, s)) rfl rfl rfl rfl ?_
  refine xV_step (o1 := (999, lc_v i, [], h2, c, s)) rfl rfl rfl rfl ?_
  exact xV_stop
set_option maxRecDepth 100000 in
set_option maxHeartbeats 4000000 in
/-- top -/
theorem lo_19 (hL : L ≤ 3072) (hi6 : i + 6 ≤ L) (I : lc_I h) : lo_P L xs i 730 h c s := by
  obtain ⟨⟨t, tp⟩, ⟨mem, m12, e9, e4⟩, ⟨sc, sc8, e8, e33⟩, ⟨td, td9, e10, e3⟩, ⟨vc, vc6, e35, e63⟩, e1, e11, ch, pl, si, vs, pi, rwr⟩ := I.2.2.2
  have R := I.2.2.2
  obtain ⟨v1, h1, r1, k1⟩ := lc_3 (D := 49) (C := aC_m_X9_top) (m := xmi_X9_top) (A := [.ref 0]) I.1 I.2.1 as_m_X9_top rfl (by decide) ⟨a_av (by decide) I.2.1, trivial⟩ rfl
  have l1 : 72 ≤ h1.1.length := hk_n k1 I.2.1
  obtain ⟨v2, h2, r2, k2⟩ := lc_3 (D := 49) (C := aC_m_X10_top) (m := xmi_X10_top) (A := [.ref 39]) k1.1 l1 as_m_X10_top rfl (by decide) ⟨a_av (by decide) l1, trivial⟩ rfl
  have sr := SI_r si e9 m12 e8 sc8
  obtain rfl := xq_Z (hn := (show List.Nodup [0] by decide)) r1 (fun f => to9_q (f := f) (PL := fun k => xg 0 h.2.1 30 k) (d := nI td) I.1 e9 m12 e8 sc8 e10 si (fun _ _ => rfl) (lc_Iq I))
  obtain rfl := xq_Z (hn := (show List.Nodup [0] by decide)) r2 (fun f => to10_q (f := f) (PL := fun k => xg 0 h.2.1 30 k) (d := nI td) (FR := fun k => xg 0 h.2.1 51 k) (RW := fun k => xg 0 h.2.1 44 k) m12 ((hk_g (c := 39) (k := 4) k1 rfl rfl).trans e4) ((hk_g (c := 39) (k := 33) k1 rfl rfl).trans e33) sc8 ((hk_g (c := 39) (k := 3) k1 rfl rfl).trans e3) (fun k _ => hk_g (c := 51) (k := k) k1 rfl rfl) (fun k hk' => by rw [hk_g (c := 52) (k := k) k1 rfl rfl]; exact sr.1 k hk') (fun k s hk' hs => by obtain ⟨b, e⟩ := sr.2.1 k s hk' hs; exact ⟨b, e, (hk_g (c := 44) (k := 4096 * k + s) k1 rfl rfl).trans e⟩) (fun k hk' => (hk_g (c := 62) (k := k) k1 rfl rfl).trans (pl k hk').symm) (hk_q k1 I.2.1))
  have f1 := k1.2.2
  have f2 := k2.2.2
  have I2 : lc_I h2 := ⟨k2.1, hk_n k2 l1, by rw [k2.2.1, k1.2.1]; exact I.2.2.1, ⟨tp_2 f1 f2 rfl (fun _ => rfl) rfl (fun _ => rfl) rfl (fun _ => rfl) rfl (fun _ => rfl) R.1, rb_2 f1 f2 rfl rfl rfl rfl rfl rfl R.2.1, rb_2 f1 f2 rfl rfl rfl rfl rfl rfl R.2.2.1, rb_2 f1 f2 rfl rfl rfl rfl rfl rfl R.2.2.2.1, rb_2 f1 f2 rfl rfl rfl rfl rfl rfl R.2.2.2.2.1, pr_2 f1 f2 rfl rfl rfl rfl rfl rfl R.2.2.2.2.2.1, pr_2 f1 f2 rfl rfl rfl rfl rfl rfl R.2.2.2.2.2.2.1, ch_2 f1 f2 rfl rfl R.2.2.2.2.2.2.2.1, pl_2 f1 f2 rfl rfl R.2.2.2.2.2.2.2.2.1, SI_2 I.1 I.2.1 k1.1 l1 (fz_run (by decide +kernel) r1) (fz_run (by decide +kernel) r2) f1 f2 rfl rfl R.2.2.2.2.2.2.2.2.2.1, VZ_2 f1 f2 rfl rfl R.2.2.2.2.2.2.2.2.2.2.1, PI_2 I.1 I.2.1 k1.1 l1 (fz_run (by decide +kernel) r1) (qz_run (by decide +kernel) r1) f1 rfl (fz_run (by decide +kernel) r2) (qz_run (by decide +kernel) r2) f2 rfl (RI_p R), rw_2 f1 f2 rfl rfl (RI_w R)⟩⟩
  refine ⟨h2, c, s, ?_, I2, by omega, by omega⟩
  refine xV_step (o1 := (731, lc_v i, [.ref 0], h, c, s)) rfl rfl rfl rfl ?_
  refine xV_call (d := 49) rfl rfl rfl rfl (xa_c_ok (d := 49) (pc := 731) (lv := lc_v i) (nL := 8) (lc_Iq I) rfl).1 r1 ?_
  refine xV_step (o1 := (735, lc_v i, [], h1, c, s)) rfl rfl rfl rfl ?_
  refine xV_step (o1 := (736, lc_v i, [.ref 39], h1, c, s)) rfl rfl rfl rfl ?_
  refine xV_call (d := 49) rfl rfl rfl rfl (xa_c_ok (d := 49) (pc := 736) (lv := lc_v i) (nL := 8) (hk_q k1 I.2.1) rfl).1 r2 ?_
  refine xV_step (o1 := (740, lc_v i, [], h2, c, s)) rfl rfl rfl rfl ?_
  refine xV_step (o1 := (999, lc_v i, [], h2, c, s)) rfl rfl rfl rfl ?_
  exact xV_stop
set_option maxRecDepth 100000 in
set_option maxHeartbeats 4000000 in
/-- turns -/
theorem lo_10 (hL : L ≤ 3072) (hi6 : i + 6 ≤ L) (I : lc_I h) : lo_P L xs i 490 h c s := by
  obtain ⟨⟨t, tp⟩, ⟨mem, m12, e9, e4⟩, ⟨sc, sc8, e8, e33⟩, ⟨td, td9, e10, e3⟩, ⟨vc, vc6, e35, e63⟩, e1, e11, ch, pl, si, vs, pi, rwr⟩ := I.2.2.2
  have R := I.2.2.2
  have m1 := lc_m1 I e9 m12
  obtain ⟨v1, h1, r1, k1⟩ := lc_3 (D := 49) (C := aC_m_X9_turns) (m := xmi_X9_turns) (A := [.ref 0, .int (xs (i + 1))]) I.1 I.2.1 as_m_X9_turns rfl (by decide) ⟨a_av (by decide) I.2.1, a_an, trivial⟩ rfl
  have l1 : 72 ≤ h1.1.length := hk_n k1 I.2.1
  obtain ⟨v2, h2, r2, k2⟩ := lc_3 (D := 49) (C := aC_m_X10_turns) (m := xmi_X10_turns) (A := [.ref 39, .int (xs (i + 1))]) k1.1 l1 as_m_X10_turns rfl (by decide) ⟨a_av (by decide) l1, a_an, trivial⟩ rfl
  have sr := SI_r si e9 m12 e8 sc8
  obtain ⟨rfl, pi1⟩ := xq_Z (hn := (show List.Nodup [0, 1] by decide)) r1 (fun f => tu9_q (f := f) (x := xs (i + 1)) (d := nI td) I.1 I.2.1 e9 m1 m12 e8 sc8 e10 si pi)
  obtain rfl := xq_Z (hn := (show List.Nodup [0, 1] by decide)) r2 (fun f => tu10_q (f := f) (x := xs (i + 1)) (d := nI td) (FR := fun k => xg 0 h.2.1 51 k) (RW := fun k => xg 0 h.2.1 44 k) m12 ((hk_g (c := 39) (k := 4) k1 rfl rfl).trans e4) ((hk_g (c := 39) (k := 33) k1 rfl rfl).trans e33) sc8 ((hk_g (c := 39) (k := 3) k1 rfl rfl).trans e3) (fun k _ => hk_g (c := 51) (k := k) k1 rfl rfl) (fun k hk' => by rw [hk_g (c := 52) (k := k) k1 rfl rfl]; exact sr.1 k hk') (fun k s hk' hs => by obtain ⟨b, e⟩ := sr.2.1 k s hk' hs; exact ⟨b, e, (hk_g (c := 44) (k := 4096 * k + s) k1 rfl rfl).trans e⟩) (hk_q k1 I.2.1))
  have f1 := k1.2.2
  have f2 := k2.2.2
  have I2 : lc_I h2 := ⟨k2.1, hk_n k2 l1, by rw [k2.2.1, k1.2.1]; exact I.2.2.1, ⟨tp_2 f1 f2 rfl (fun _ => rfl) rfl (fun _ => rfl) rfl (fun _ => rfl) rfl (fun _ => rfl) R.1, rb_2 f1 f2 rfl rfl rfl rfl rfl rfl R.2.1, rb_2 f1 f2 rfl rfl rfl rfl rfl rfl R.2.2.1, rb_2 f1 f2 rfl rfl rfl rfl rfl rfl R.2.2.2.1, rb_2 f1 f2 rfl rfl rfl rfl rfl rfl R.2.2.2.2.1, pr_2 f1 f2 rfl rfl rfl rfl rfl rfl R.2.2.2.2.2.1, pr_2 f1 f2 rfl rfl rfl rfl rfl rfl R.2.2.2.2.2.2.1, ch_2 f1 f2 rfl rfl R.2.2.2.2.2.2.2.1, pl_2 f1 f2 rfl rfl R.2.2.2.2.2.2.2.2.1, SI_2 I.1 I.2.1 k1.1 l1 (fz_run (by decide +kernel) r1) (fz_run (by decide +kernel) r2) f1 f2 rfl rfl R.2.2.2.2.2.2.2.2.2.1, VZ_2 f1 f2 rfl rfl R.2.2.2.2.2.2.2.2.2.2.1, PI_t k1.1 l1 (Fs_z (a_rq_of k1.1.1 l1) (fz_run (by decide +kernel) r2)) (qz_run (by decide +kernel) r2) f2 rfl (pi1), rw_2 f1 f2 rfl rfl (RI_w R)⟩⟩
  refine ⟨h2, c, s, ?_, I2, by omega, by omega⟩
  refine xV_step (o1 := (491, lc_v i, [.ref 0], h, c, s)) rfl rfl rfl rfl ?_
  refine xV_arg 1 1 rfl (by omega) hL rfl rfl rfl rfl rfl rfl rfl rfl rfl rfl ?_
  refine xV_call (d := 49) rfl rfl rfl rfl (xa_c_ok (d := 49) (pc := 497) (lv := lc_v i) (nL := 8) (lc_Iq I) rfl).1 r1 ?_
  refine xV_step (o1 := (501, lc_v i, [], h1, c, s)) rfl rfl rfl rfl ?_
  refine xV_step (o1 := (502, lc_v i, [.ref 39], h1, c, s)) rfl rfl rfl rfl ?_
  refine xV_arg 1 1 rfl (by omega) hL rfl rfl rfl rfl rfl rfl rfl rfl rfl rfl ?_
  refine xV_call (d := 49) rfl rfl rfl rfl (xa_c_ok (d := 49) (pc := 508) (lv := lc_v i) (nL := 8) (hk_q k1 I.2.1) rfl).1 r2 ?_
  refine xV_step (o1 := (512, lc_v i, [], h2, c, s)) rfl rfl rfl rfl ?_
  refine xV_step (o1 := (999, lc_v i, [], h2, c, s)) rfl rfl rfl rfl ?_
  exact xV_stop
set_option maxRecDepth 100000 in
set_option maxHeartbeats 4000000 in
/-- stronger -/
theorem lo_9 (hL : L ≤ 3072) (hi6 : i + 6 ≤ L) (I : lc_I h) : lo_P L xs i 453 h c s := by
  obtain ⟨⟨t, tp⟩, ⟨mem, m12, e9, e4⟩, ⟨sc, sc8, e8, e33⟩, ⟨td, td9, e10, e3⟩, ⟨vc, vc6, e35, e63⟩, e1, e11, ch, pl, si, vs, pi, rwr⟩ := I.2.2.2
  have R := I.2.2.2
  have m1 := lc_m1 I e9 m12
  obtain ⟨v1, h1, r1, k1⟩ := lc_3 (D := 49) (C := aC_m_X9_stronger) (m := xmi_X9_stronger) (A := [.ref 0, .int (xs (i + 1)), .int (xs (i + 2))]) I.1 I.2.1 as_m_X9_stronger rfl (by decide) ⟨a_av (by decide) I.2.1, a_an, a_an, trivial⟩ rfl
  have l1 : 72 ≤ h1.1.length := hk_n k1 I.2.1
  obtain ⟨v2, h2, r2, k2⟩ := lc_3 (D := 49) (C := aC_m_X10_stronger) (m := xmi_X10_stronger) (A := [.ref 39, .int (xs (i + 1)), .int (xs (i + 2))]) k1.1 l1 as_m_X10_stronger rfl (by decide) ⟨a_av (by decide) l1, a_an, a_an, trivial⟩ rfl
  have sr := SI_r si e9 m12 e8 sc8
  obtain ⟨rfl, pi1⟩ := xq_Z (hn := (show List.Nodup [0, 1, 2] by decide)) r1 (fun f => sr9_q (f := f) (x := xs (i + 1)) (y := xs (i + 2)) (d := nI td) I.1 I.2.1 e9 m1 m12 e8 sc8 e10 si pi)
  obtain rfl := xq_Z (hn := (show List.Nodup [0, 1, 2] by decide)) r2 (fun f => sr10_q (f := f) (x := xs (i + 1)) (y := xs (i + 2)) (d := nI td) (FR := fun k => xg 0 h.2.1 51 k) (RW := fun k => xg 0 h.2.1 44 k) m12 ((hk_g (c := 39) (k := 4) k1 rfl rfl).trans e4) ((hk_g (c := 39) (k := 33) k1 rfl rfl).trans e33) sc8 ((hk_g (c := 39) (k := 3) k1 rfl rfl).trans e3) (fun k _ => hk_g (c := 51) (k := k) k1 rfl rfl) (fun k hk' => by rw [hk_g (c := 52) (k := k) k1 rfl rfl]; exact sr.1 k hk') (fun k s hk' hs => by obtain ⟨b, e⟩ := sr.2.1 k s hk' hs; exact ⟨b, e, (hk_g (c := 44) (k := 4096 * k + s) k1 rfl rfl).trans e⟩) (hk_q k1 I.2.1))
  have f1 := k1.2.2
  have f2 := k2.2.2
  have I2 : lc_I h2 := ⟨k2.1, hk_n k2 l1, by rw [k2.2.1, k1.2.1]; exact I.2.2.1, ⟨tp_2 f1 f2 rfl (fun _ => rfl) rfl (fun _ => rfl) rfl (fun _ => rfl) rfl (fun _ => rfl) R.1, rb_2 f1 f2 rfl rfl rfl rfl rfl rfl R.2.1, rb_2 f1 f2 rfl rfl rfl rfl rfl rfl R.2.2.1, rb_2 f1 f2 rfl rfl rfl rfl rfl rfl R.2.2.2.1, rb_2 f1 f2 rfl rfl rfl rfl rfl rfl R.2.2.2.2.1, pr_2 f1 f2 rfl rfl rfl rfl rfl rfl R.2.2.2.2.2.1, pr_2 f1 f2 rfl rfl rfl rfl rfl rfl R.2.2.2.2.2.2.1, ch_2 f1 f2 rfl rfl R.2.2.2.2.2.2.2.1, pl_2 f1 f2 rfl rfl R.2.2.2.2.2.2.2.2.1, SI_2 I.1 I.2.1 k1.1 l1 (fz_run (by decide +kernel) r1) (fz_run (by decide +kernel) r2) f1 f2 rfl rfl R.2.2.2.2.2.2.2.2.2.1, VZ_2 f1 f2 rfl rfl R.2.2.2.2.2.2.2.2.2.2.1, PI_t k1.1 l1 (Fs_z (a_rq_of k1.1.1 l1) (fz_run (by decide +kernel) r2)) (qz_run (by decide +kernel) r2) f2 rfl (pi1), rw_2 f1 f2 rfl rfl (RI_w R)⟩⟩
  refine ⟨h2, c, s, ?_, I2, by omega, by omega⟩
  refine xV_step (o1 := (454, lc_v i, [.ref 0], h, c, s)) rfl rfl rfl rfl ?_
  refine xV_arg 1 1 rfl (by omega) hL rfl rfl rfl rfl rfl rfl rfl rfl rfl rfl ?_
  refine xV_arg 2 2 rfl (by omega) hL rfl rfl rfl rfl rfl rfl rfl rfl rfl rfl ?_
  refine xV_call (d := 49) rfl rfl rfl rfl (xa_c_ok (d := 49) (pc := 466) (lv := lc_v i) (nL := 8) (lc_Iq I) rfl).1 r1 ?_
  refine xV_step (o1 := (470, lc_v i, [], h1, c, s)) rfl rfl rfl rfl ?_
  refine xV_step (o1 := (471, lc_v i, [.ref 39], h1, c, s)) rfl rfl rfl rfl ?_
  refine xV_arg 1 1 rfl (by omega) hL rfl rfl rfl rfl rfl rfl rfl rfl rfl rfl ?_
  refine xV_arg 2 2 rfl (by omega) hL rfl rfl rfl rfl rfl rfl rfl rfl rfl rfl ?_
  refine xV_call (d := 49) rfl rfl rfl rfl (xa_c_ok (d := 49) (pc := 483) (lv := lc_v i) (nL := 8) (hk_q k1 I.2.1) rfl).1 r2 ?_
  refine xV_step (o1 := (487, lc_v i, [], h2, c, s)) rfl rfl rfl rfl ?_
  refine xV_step (o1 := (999, lc_v i, [], h2, c, s)) rfl rfl rfl rfl ?_
  exact xV_stop
set_option maxRecDepth 100000 in
set_option maxHeartbeats 4000000 in
/-- ally -/
theorem lo_13 (hL : L ≤ 3072) (hi6 : i + 6 ≤ L) (I : lc_I h) : lo_P L xs i 592 h c s := by
  obtain ⟨⟨t, tp⟩, ⟨mem, m12, e9, e4⟩, ⟨sc, sc8, e8, e33⟩, ⟨td, td9, e10, e3⟩, ⟨vc, vc6, e35, e63⟩, e1, e11, ch, pl, si, vs, pi, rwr⟩ := I.2.2.2
  have R := I.2.2.2
  have m1 := lc_m1 I e9 m12
  obtain ⟨v1, h1, r1, k1⟩ := lc_3 (D := 49) (C := aC_m_X9_ally) (m := xmi_X9_ally) (A := [.ref 0, .int (xs (i + 1))]) I.1 I.2.1 as_m_X9_ally rfl (by decide) ⟨a_av (by decide) I.2.1, a_an, trivial⟩ rfl
  have l1 : 72 ≤ h1.1.length := hk_n k1 I.2.1
  obtain ⟨v2, h2, r2, k2⟩ := lc_3 (D := 49) (C := aC_m_X10_ally) (m := xmi_X10_ally) (A := [.ref 39, .int (xs (i + 1))]) k1.1 l1 as_m_X10_ally rfl (by decide) ⟨a_av (by decide) l1, a_an, trivial⟩ rfl
  have sr := SI_r si e9 m12 e8 sc8
  obtain ⟨rfl, pi1⟩ := xq_Z (hn := (show List.Nodup [0, 1] by decide)) r1 (fun f => al9_q (f := f) (x := xs (i + 1)) (d := nI td) I.1 I.2.1 e9 m1 m12 e8 sc8 e10 si pi)
  obtain rfl := xq_Z (hn := (show List.Nodup [0, 1] by decide)) r2 (fun f => al10_q (f := f) (x := xs (i + 1)) (d := nI td) (FR := fun k => xg 0 h.2.1 51 k) (RW := fun k => xg 0 h.2.1 44 k) m12 ((hk_g (c := 39) (k := 4) k1 rfl rfl).trans e4) ((hk_g (c := 39) (k := 33) k1 rfl rfl).trans e33) sc8 ((hk_g (c := 39) (k := 3) k1 rfl rfl).trans e3) (fun k _ => hk_g (c := 51) (k := k) k1 rfl rfl) (fun k hk' => by rw [hk_g (c := 52) (k := k) k1 rfl rfl]; exact sr.1 k hk') (fun k s hk' hs => by obtain ⟨b, e⟩ := sr.2.1 k s hk' hs; exact ⟨b, e, (hk_g (c := 44) (k := 4096 * k + s) k1 rfl rfl).trans e⟩) (hk_q k1 I.2.1))
  have f1 := k1.2.2
  have f2 := k2.2.2
  have I2 : lc_I h2 := ⟨k2.1, hk_n k2 l1, by rw [k2.2.1, k1.2.1]; exact I.2.2.1, ⟨tp_2 f1 f2 rfl (fun _ => rfl) rfl (fun _ => rfl) rfl (fun _ => rfl) rfl (fun _ => rfl) R.1, rb_2 f1 f2 rfl rfl rfl rfl rfl rfl R.2.1, rb_2 f1 f2 rfl rfl rfl rfl rfl rfl R.2.2.1, rb_2 f1 f2 rfl rfl rfl rfl rfl rfl R.2.2.2.1, rb_2 f1 f2 rfl rfl rfl rfl rfl rfl R.2.2.2.2.1, pr_2 f1 f2 rfl rfl rfl rfl rfl rfl R.2.2.2.2.2.1, pr_2 f1 f2 rfl rfl rfl rfl rfl rfl R.2.2.2.2.2.2.1, ch_2 f1 f2 rfl rfl R.2.2.2.2.2.2.2.1, pl_2 f1 f2 rfl rfl R.2.2.2.2.2.2.2.2.1, SI_2 I.1 I.2.1 k1.1 l1 (fz_run (by decide +kernel) r1) (fz_run (by decide +kernel) r2) f1 f2 rfl rfl R.2.2.2.2.2.2.2.2.2.1, VZ_2 f1 f2 rfl rfl R.2.2.2.2.2.2.2.2.2.2.1, PI_t k1.1 l1 (Fs_z (a_rq_of k1.1.1 l1) (fz_run (by decide +kernel) r2)) (qz_run (by decide +kernel) r2) f2 rfl (pi1), rw_2 f1 f2 rfl rfl (RI_w R)⟩⟩
  refine ⟨h2, c, s, ?_, I2, by omega, by omega⟩
  refine xV_step (o1 := (593, lc_v i, [.ref 0], h, c, s)) rfl rfl rfl rfl ?_
  refine xV_arg 1 1 rfl (by omega) hL rfl rfl rfl rfl rfl rfl rfl rfl rfl rfl ?_
  refine xV_call (d := 49) rfl rfl rfl rfl (xa_c_ok (d := 49) (pc := 599) (lv := lc_v i) (nL := 8) (lc_Iq I) rfl).1 r1 ?_
  refine xV_step (o1 := (603, lc_v i, [], h1, c, s)) rfl rfl rfl rfl ?_
  refine xV_step (o1 := (604, lc_v i, [.ref 39], h1, c, s)) rfl rfl rfl rfl ?_
  refine xV_arg 1 1 rfl (by omega) hL rfl rfl rfl rfl rfl rfl rfl rfl rfl rfl ?_
  refine xV_call (d := 49) rfl rfl rfl rfl (xa_c_ok (d := 49) (pc := 610) (lv := lc_v i) (nL := 8) (hk_q k1 I.2.1) rfl).1 r2 ?_
  refine xV_step (o1 := (614, lc_v i, [], h2, c, s)) rfl rfl rfl rfl ?_
  refine xV_step (o1 := (999, lc_v i, [], h2, c, s)) rfl rfl rfl rfl ?_
  exact xV_stop
set_option maxRecDepth 100000 in
set_option maxHeartbeats 4000000 in
/-- many -/
theorem lo_7 (hL : L ≤ 3072) (hi6 : i + 6 ≤ L) (I : lc_I h) : lo_P L xs i 391 h c s := by
  obtain ⟨⟨t, tp⟩, ⟨mem, m12, e9, e4⟩, ⟨sc, sc8, e8, e33⟩, ⟨td, td9, e10, e3⟩, ⟨vc, vc6, e35, e63⟩, e1, e11, ch, pl, si, vs, pi, rwr⟩ := I.2.2.2
  have R := I.2.2.2
  have m1 := lc_m1 I e9 m12
  obtain ⟨v1, h1, r1, k1⟩ := lc_3 (D := 49) (C := aC_m_X9_many) (m := xmi_X9_many) (A := [.ref 0, .int (xs (i + 1))]) I.1 I.2.1 as_m_X9_many rfl (by decide) ⟨a_av (by decide) I.2.1, a_an, trivial⟩ rfl
  have l1 : 72 ≤ h1.1.length := hk_n k1 I.2.1
  obtain ⟨v2, h2, r2, k2⟩ := lc_3 (D := 49) (C := aC_m_X10_many) (m := xmi_X10_many) (A := [.ref 39, .int (xs (i + 1))]) k1.1 l1 as_m_X10_many rfl (by decide) ⟨a_av (by decide) l1, a_an, trivial⟩ rfl
  have sr := SI_r si e9 m12 e8 sc8
  have M := cv_m (d := nI td) I.1 m12 e33 sc8 sr.2.1
  obtain ⟨rfl, pi1⟩ := xq_Z (hn := (show List.Nodup [0, 1] by decide)) r1 (fun f => ma9_q (f := f) (x := xs (i + 1)) (d := nI td) I.1 I.2.1 e9 m1 m12 e8 sc8 e10 si pi M)
  obtain rfl := xq_Z (hn := (show List.Nodup [0, 1] by decide)) r2 (fun f => ma10_q (f := f) (x := xs (i + 1)) (d := nI td) (FR := fun k => xg 0 h.2.1 51 k) (RW := fun k => xg 0 h.2.1 44 k) m12 ((hk_g (c := 39) (k := 4) k1 rfl rfl).trans e4) ((hk_g (c := 39) (k := 33) k1 rfl rfl).trans e33) sc8 ((hk_g (c := 39) (k := 3) k1 rfl rfl).trans e3) (fun k _ => hk_g (c := 51) (k := k) k1 rfl rfl) (fun k hk' => by rw [hk_g (c := 52) (k := k) k1 rfl rfl]; exact sr.1 k hk') (fun k s hk' hs => by obtain ⟨b, e⟩ := sr.2.1 k s hk' hs; exact ⟨b, e, (hk_g (c := 44) (k := 4096 * k + s) k1 rfl rfl).trans e⟩) (hk_q k1 I.2.1))
  have f1 := k1.2.2
  have f2 := k2.2.2
  have I2 : lc_I h2 := ⟨k2.1, hk_n k2 l1, by rw [k2.2.1, k1.2.1]; exact I.2.2.1, ⟨tp_2 f1 f2 rfl (fun _ => rfl) rfl (fun _ => rfl) rfl (fun _ => rfl) rfl (fun _ => rfl) R.1, rb_2 f1 f2 rfl rfl rfl rfl rfl rfl R.2.1, rb_2 f1 f2 rfl rfl rfl rfl rfl rfl R.2.2.1, rb_2 f1 f2 rfl rfl rfl rfl rfl rfl R.2.2.2.1, rb_2 f1 f2 rfl rfl rfl rfl rfl rfl R.2.2.2.2.1, pr_2 f1 f2 rfl rfl rfl rfl rfl rfl R.2.2.2.2.2.1, pr_2 f1 f2 rfl rfl rfl rfl rfl rfl R.2.2.2.2.2.2.1, ch_2 f1 f2 rfl rfl R.2.2.2.2.2.2.2.1, pl_2 f1 f2 rfl rfl R.2.2.2.2.2.2.2.2.1, SI_2 I.1 I.2.1 k1.1 l1 (fz_run (by decide +kernel) r1) (fz_run (by decide +kernel) r2) f1 f2 rfl rfl R.2.2.2.2.2.2.2.2.2.1, VZ_2 f1 f2 rfl rfl R.2.2.2.2.2.2.2.2.2.2.1, PI_t k1.1 l1 (Fs_z (a_rq_of k1.1.1 l1) (fz_run (by decide +kernel) r2)) (qz_run (by decide +kernel) r2) f2 rfl (pi1), rw_2 f1 f2 rfl rfl (RI_w R)⟩⟩
  refine ⟨h2, c, s, ?_, I2, by omega, by omega⟩
  refine xV_step (o1 := (392, lc_v i, [.ref 0], h, c, s)) rfl rfl rfl rfl ?_
  refine xV_arg 1 1 rfl (by omega) hL rfl rfl rfl rfl rfl rfl rfl rfl rfl rfl ?_
  refine xV_call (d := 49) rfl rfl rfl rfl (xa_c_ok (d := 49) (pc := 398) (lv := lc_v i) (nL := 8) (lc_Iq I) rfl).1 r1 ?_
  refine xV_step (o1 := (402, lc_v i, [], h1, c, s)) rfl rfl rfl rfl ?_
  refine xV_step (o1 := (403, lc_v i, [.ref 39], h1, c, s)) rfl rfl rfl rfl ?_
  refine xV_arg 1 1 rfl (by omega) hL rfl rfl rfl rfl rfl rfl rfl rfl rfl rfl ?_
  refine xV_call (d := 49) rfl rfl rfl rfl (xa_c_ok (d := 49) (pc := 409) (lv := lc_v i) (nL := 8) (hk_q k1 I.2.1) rfl).1 r2 ?_
  refine xV_step (o1 := (413, lc_v i, [], h2, c, s)) rfl rfl rfl rfl ?_
  refine xV_step (o1 := (999, lc_v i, [], h2, c, s)) rfl rfl rfl rfl ?_
  exact xV_stop
set_option maxRecDepth 100000 in
set_option maxHeartbeats 4000000 in
/-- setAt -/
theorem lo_8 (hL : L ≤ 3072) (hi6 : i + 6 ≤ L) (I : lc_I h) : lo_P L xs i 416 h c s := by
  obtain ⟨⟨t, tp⟩, ⟨mem, m12, e9, e4⟩, ⟨sc, sc8, e8, e33⟩, ⟨td, td9, e10, e3⟩, ⟨vc, vc6, e35, e63⟩, e1, e11, ch, pl, si, vs, pi, rwr⟩ := I.2.2.2
  have R := I.2.2.2
  have m1 := lc_m1 I e9 m12
  obtain ⟨v1, h1, r1, k1⟩ := lc_3 (D := 49) (C := aC_m_X9_setAt) (m := xmi_X9_setAt) (A := [.ref 0, .int (xs (i + 1)), .int (xs (i + 2))]) I.1 I.2.1 as_m_X9_setAt rfl (by decide) ⟨a_av (by decide) I.2.1, a_an, a_an, trivial⟩ rfl
  have l1 : 72 ≤ h1.1.length := hk_n k1 I.2.1
  obtain ⟨v2, h2, r2, k2⟩ := lc_3 (D := 49) (C := aC_m_X10_setAt) (m := xmi_X10_setAt) (A := [.ref 39, .int (xs (i + 1)), .int (xs (i + 2))]) k1.1 l1 as_m_X10_setAt rfl (by decide) ⟨a_av (by decide) l1, a_an, a_an, trivial⟩ rfl
  have sr := SI_r si e9 m12 e8 sc8
  have M := cv_m (d := nI td) I.1 m12 e33 sc8 sr.2.1
  obtain ⟨rfl, pi1⟩ := xq_Z (hn := (show List.Nodup [0, 1, 2] by decide)) r1 (fun f => sa9_q (f := f) (x := xs (i + 1)) (y := xs (i + 2)) (d := nI td) I.1 I.2.1 e9 m1 m12 e8 sc8 e10 si pi M)
  obtain rfl := xq_Z (hn := (show List.Nodup [0, 1, 2] by decide)) r2 (fun f => sa10_q (f := f) (x := xs (i + 1)) (y := xs (i + 2)) (d := nI td) (FR := fun k => xg 0 h.2.1 51 k) (RW := fun k => xg 0 h.2.1 44 k) m12 ((hk_g (c := 39) (k := 4) k1 rfl rfl).trans e4) ((hk_g (c := 39) (k := 33) k1 rfl rfl).trans e33) sc8 ((hk_g (c := 39) (k := 3) k1 rfl rfl).trans e3) (fun k _ => hk_g (c := 51) (k := k) k1 rfl rfl) (fun k hk' => by rw [hk_g (c := 52) (k := k) k1 rfl rfl]; exact sr.1 k hk') (fun k s hk' hs => by obtain ⟨b, e⟩ := sr.2.1 k s hk' hs; exact ⟨b, e, (hk_g (c := 44) (k := 4096 * k + s) k1 rfl rfl).trans e⟩) (hk_q k1 I.2.1))
  have f1 := k1.2.2
  have f2 := k2.2.2
  have I2 : lc_I h2 := ⟨k2.1, hk_n k2 l1, by rw [k2.2.1, k1.2.1]; exact I.2.2.1, ⟨tp_2 f1 f2 rfl (fun _ => rfl) rfl (fun _ => rfl) rfl (fun _ => rfl) rfl (fun _ => rfl) R.1, rb_2 f1 f2 rfl rfl rfl rfl rfl rfl R.2.1, rb_2 f1 f2 rfl rfl rfl rfl rfl rfl R.2.2.1, rb_2 f1 f2 rfl rfl rfl rfl rfl rfl R.2.2.2.1, rb_2 f1 f2 rfl rfl rfl rfl rfl rfl R.2.2.2.2.1, pr_2 f1 f2 rfl rfl rfl rfl rfl rfl R.2.2.2.2.2.1, pr_2 f1 f2 rfl rfl rfl rfl rfl rfl R.2.2.2.2.2.2.1, ch_2 f1 f2 rfl rfl R.2.2.2.2.2.2.2.1, pl_2 f1 f2 rfl rfl R.2.2.2.2.2.2.2.2.1, SI_2 I.1 I.2.1 k1.1 l1 (fz_run (by decide +kernel) r1) (fz_run (by decide +kernel) r2) f1 f2 rfl rfl R.2.2.2.2.2.2.2.2.2.1, VZ_2 f1 f2 rfl rfl R.2.2.2.2.2.2.2.2.2.2.1, PI_t k1.1 l1 (Fs_z (a_rq_of k1.1.1 l1) (fz_run (by decide +kernel) r2)) (qz_run (by decide +kernel) r2) f2 rfl (pi1), rw_2 f1 f2 rfl rfl (RI_w R)⟩⟩
  refine ⟨h2, c, s, ?_, I2, by omega, by omega⟩
  refine xV_step (o1 := (417, lc_v i, [.ref 0], h, c, s)) rfl rfl rfl rfl ?_
  refine xV_arg 1 1 rfl (by omega) hL rfl rfl rfl rfl rfl rfl rfl rfl rfl rfl ?_
  refine xV_arg 2 2 rfl (by omega) hL rfl rfl rfl rfl rfl rfl rfl rfl rfl rfl ?_
  refine xV_call (d := 49) rfl rfl rfl rfl (xa_c_ok (d := 49) (pc := 429) (lv := lc_v i) (nL := 8) (lc_Iq I) rfl).1 r1 ?_
  refine xV_step (o1 := (433, lc_v i, [], h1, c, s)) rfl rfl rfl rfl ?_
  refine xV_step (o1 := (434, lc_v i, [.ref 39], h1, c, s)) rfl rfl rfl rfl ?_
  refine xV_arg 1 1 rfl (by omega) hL rfl rfl rfl rfl rfl rfl rfl rfl rfl rfl ?_
  refine xV_arg 2 2 rfl (by omega) hL rfl rfl rfl rfl rfl rfl rfl rfl rfl rfl ?_
  refine xV_call (d := 49) rfl rfl rfl rfl (xa_c_ok (d := 49) (pc := 446) (lv := lc_v i) (nL := 8) (hk_q k1 I.2.1) rfl).1 r2 ?_
  refine xV_step (o1 := (450, lc_v i, [], h2, c, s)) rfl rfl rfl rfl ?_
  refine xV_step (o1 := (999, lc_v i, [], h2, c, s)) rfl rfl rfl rfl ?_
  exact xV_stop
set_option maxRecDepth 100000 in
set_option maxHeartbeats 4000000 in
/-- chance -/
theorem lo_12 (hL : L ≤ 3072) (hi6 : i + 6 ≤ L) (I : lc_I h) : lo_P L xs i 567 h c s := by
  obtain ⟨⟨t, tp⟩, ⟨mem, m12, e9, e4⟩, ⟨sc, sc8, e8, e33⟩, ⟨td, td9, e10, e3⟩, ⟨vc, vc6, e35, e63⟩, e1, e11, ch, pl, si, vs, pi, rwr⟩ := I.2.2.2
  have m1 := lc_m1 I e9 m12
  obtain ⟨v1, h1, r1, k1⟩ := lc_3 (D := 49) (C := aC_m_X9_chance) (m := xmi_X9_chance) (A := [.ref 0, .int (xs (i + 1))]) I.1 I.2.1 as_m_X9_chance rfl (by decide) ⟨a_av (by decide) I.2.1, a_an, trivial⟩ rfl
  have l1 : 72 ≤ h1.1.length := hk_n k1 I.2.1
  have I1 : lc_I h1 := lc_chI I r1 k1
  obtain ⟨v2, h2, r2, k2⟩ := lc_3 (D := 49) (C := aC_m_X10_chance) (m := xmi_X10_chance) (A := [.ref 39, .int (xs (i + 1))]) k1.1 l1 as_m_X10_chance rfl (by decide) ⟨a_av (by decide) l1, a_an, trivial⟩ rfl
  have sr := SI_r si e9 m12 e8 sc8
  obtain rfl := xq_Z (hn := (show List.Nodup [0, 1] by decide)) r1 (fun f => cv9_q (f := f) (x := xs (i + 1)) (d := nI td) I.1 I.2.1 e9 m1 m12 e8 sc8 e10 si pi)
  obtain rfl := xq_Z (hn := (show List.Nodup [0, 1] by decide)) r2 (fun f => cv10_q (f := f) (x := xs (i + 1)) (d := nI td) (FR := fun k => xg 0 h.2.1 51 k) (RW := fun k => xg 0 h.2.1 44 k) m12 ((hk_g (c := 39) (k := 4) k1 rfl rfl).trans e4) ((hk_g (c := 39) (k := 33) k1 rfl rfl).trans e33) sc8 ((hk_g (c := 39) (k := 3) k1 rfl rfl).trans e3) (fun k _ => hk_g (c := 51) (k := k) k1 rfl rfl) (fun k hk' => by rw [hk_g (c := 52) (k := k) k1 rfl rfl]; exact sr.1 k hk') (fun k s hk' hs => by obtain ⟨b, e⟩ := sr.2.1 k s hk' hs; exact ⟨b, e, (hk_g (c := 44) (k := 4096 * k + s) k1 rfl rfl).trans e⟩) (hk_q k1 I.2.1))
  have I2 : lc_I h2 := lc_It I1 k2.1 (hk_n k2 l1) (by rw [k2.2.1]; exact I1.2.2.1) (Fs_z (lc_Iq I1) (fz_run (by decide +kernel) r2)) k2.2.2 rfl (PI_t I1.1 I1.2.1 (Fs_z (lc_Iq I1) (fz_run (by decide +kernel) r2)) (qz_run (by decide +kernel) r2) k2.2.2 rfl (RI_p I1.2.2.2))
  refine ⟨h2, c, s, ?_, I2, by omega, by omega⟩
  refine xV_step (o1 := (568, lc_v i, [.ref 0], h, c, s)) rfl rfl rfl rfl ?_
  refine xV_arg 1 1 rfl (by omega) hL rfl rfl rfl rfl rfl rfl rfl rfl rfl rfl ?_
  refine xV_call (d := 49) rfl rfl rfl rfl (xa_c_ok (d := 49) (pc := 574) (lv := lc_v i) (nL := 8) (lc_Iq I) rfl).1 r1 ?_
  refine xV_step (o1 := (578, lc_v i, [], h1, c, s)) rfl rfl rfl rfl ?_
  refine xV_step (o1 := (579, lc_v i, [.ref 39], h1, c, s)) rfl rfl rfl rfl ?_
  refine xV_arg 1 1 rfl (by omega) hL rfl rfl rfl rfl rfl rfl rfl rfl rfl rfl ?_
  refine xV_call (d := 49) rfl rfl rfl rfl (xa_c_ok (d := 49) (pc := 585) (lv := lc_v i) (nL := 8) (hk_q k1 I.2.1) rfl).1 r2 ?_
  refine xV_step (o1 := (589, lc_v i, [], h2, c, s)) rfl rfl rfl rfl ?_
  refine xV_step (o1 := (999, lc_v i, [], h2, c, s)) rfl rfl rfl rfl ?_
  exact xV_stop
set_option maxRecDepth 100000 in
set_option maxHeartbeats 4000000 in
/-- rows -/
theorem lo_21 (hL : L ≤ 3072) (hi6 : i + 6 ≤ L) (I : lc_I h) : lo_P L xs i 784 h c s := by
  obtain ⟨⟨t, tp⟩, ⟨mem, m12, e9, e4⟩, ⟨sc, sc8, e8, e33⟩, ⟨td, td9, e10, e3⟩, ⟨vc, vc6, e35, e63⟩, e1, e11, ch, pl, si, vs, pi, rwr⟩ := I.2.2.2
  have R := I.2.2.2
  obtain ⟨v1, h1, r1, k1⟩ := lc_3 (D := 49) (C := aC_m_X9_rows) (m := xmi_X9_rows) (A := [.ref 0, .int (xs (i + 1))]) I.1 I.2.1 as_m_X9_rows rfl (by decide) ⟨a_av (by decide) I.2.1, a_an, trivial⟩ rfl
  have l1 : 72 ≤ h1.1.length := hk_n k1 I.2.1
  obtain ⟨v2, h2, r2, k2⟩ := lc_3 (D := 49) (C := aC_r_X10_rows) (m := xmi_X10_rows) (A := [.ref 39, .int (xs (i + 1))]) k1.1 l1 as_r_X10_rows rfl (by decide) ⟨a_av (by decide) l1, a_an, trivial⟩ rfl
  have sr := SI_r si e9 m12 e8 sc8
  have a1 := xq_Z (hn := (show List.Nodup [0, 1] by decide)) r1 (fun f => ro9_q (f := f) (x := xs (i + 1)) (PL := fun k => xg 0 h.2.1 30 k) (d := nI td) I.1 e9 m12 e8 sc8 e10 si (fun _ _ => rfl) (lc_Iq I))
  have a2 := xq_Z (hn := (show List.Nodup [0, 1] by decide)) r2 (fun f => ro10_q (f := f) (x := xs (i + 1)) (PL := fun k => xg 0 h.2.1 30 k) (d := nI td) (FR := fun k => xg 0 h.2.1 51 k) (RW := fun k => xg 0 h.2.1 44 k) m12 ((hk_g (c := 39) (k := 4) k1 rfl rfl).trans e4) ((hk_g (c := 39) (k := 33) k1 rfl rfl).trans e33) sc8 ((hk_g (c := 39) (k := 3) k1 rfl rfl).trans e3) (fun k _ => hk_g (c := 51) (k := k) k1 rfl rfl) (fun k hk' => by rw [hk_g (c := 52) (k := k) k1 rfl rfl]; exact sr.1 k hk') (fun k s hk' hs => by obtain ⟨b, e⟩ := sr.2.1 k s hk' hs; exact ⟨b, e, (hk_g (c := 44) (k := 4096 * k + s) k1 rfl rfl).trans e⟩) (fun k hk' => (hk_g (c := 62) (k := k) k1 rfl rfl).trans (pl k hk').symm) (hk_q k1 I.2.1))
  obtain ⟨rfl, rfl, rw2⟩ := rw_go (B := BT (fun k => xg 0 h.2.1 30 k) (cvB (fun k => xg 0 h.2.1 51 k) (fun k => xg 0 h.2.1 44 k) mem sc (nI td)) mem) rwr (hk_g (c := 39) (k := 59) k1 rfl rfl) (fun k => hk_g (c := 67) (k := k) k1 rfl rfl) (fun k => hk_g (c := 29) (k := k) k2 rfl rfl) a1 a2
  have f1 := k1.2.2
  have f2 := k2.2.2
  have I2 : lc_I h2 := ⟨k2.1, hk_n k2 l1, by rw [k2.2.1, k1.2.1]; exact I.2.2.1, ⟨tp_2 f1 f2 rfl (fun _ => rfl) rfl (fun _ => rfl) rfl (fun _ => rfl) rfl (fun _ => rfl) R.1, rb_2 f1 f2 rfl rfl rfl rfl rfl rfl R.2.1, rb_2 f1 f2 rfl rfl rfl rfl rfl rfl R.2.2.1, rb_2 f1 f2 rfl rfl rfl rfl rfl rfl R.2.2.2.1, rb_2 f1 f2 rfl rfl rfl rfl rfl rfl R.2.2.2.2.1, pr_2 f1 f2 rfl rfl rfl rfl rfl rfl R.2.2.2.2.2.1, pr_2 f1 f2 rfl rfl rfl rfl rfl rfl R.2.2.2.2.2.2.1, ch_2 f1 f2 rfl rfl R.2.2.2.2.2.2.2.1, pl_2 f1 f2 rfl rfl R.2.2.2.2.2.2.2.2.1, SI_2 I.1 I.2.1 k1.1 l1 (fz_run (by decide +kernel) r1) (fz_run (by decide +kernel) r2) f1 f2 rfl rfl R.2.2.2.2.2.2.2.2.2.1, VZ_2 f1 f2 rfl rfl R.2.2.2.2.2.2.2.2.2.2.1, PI_2 I.1 I.2.1 k1.1 l1 (fz_run (by decide +kernel) r1) (qz_run (by decide +kernel) r1) f1 rfl (fz_run (by decide +kernel) r2) (qz_run (by decide +kernel) r2) f2 rfl (RI_p R), rw2⟩⟩
  refine ⟨h2, c, s, ?_, I2, by omega, by omega⟩
  refine xV_step (o1 := (785, lc_v i, [.ref 0], h, c, s)) rfl rfl rfl rfl ?_
  refine xV_arg 1 1 rfl (by omega) hL rfl rfl rfl rfl rfl rfl rfl rfl rfl rfl ?_
  refine xV_call (d := 49) rfl rfl rfl rfl (xa_c_ok (d := 49) (pc := 791) (lv := lc_v i) (nL := 8) (lc_Iq I) rfl).1 r1 ?_
  refine xV_step (o1 := (795, lc_v i, [], h1, c, s)) rfl rfl rfl rfl ?_
  refine xV_step (o1 := (796, lc_v i, [.ref 39], h1, c, s)) rfl rfl rfl rfl ?_
  refine xV_arg 1 1 rfl (by omega) hL rfl rfl rfl rfl rfl rfl rfl rfl rfl rfl ?_
  refine xV_call (d := 49) rfl rfl rfl rfl (xa_c_ok (d := 49) (pc := 802) (lv := lc_v i) (nL := 8) (hk_q k1 I.2.1) rfl).1 r2 ?_
  refine xV_step (o1 := (806, lc_v i, [], h2, c, s)) rfl rfl rfl rfl ?_
  refine xV_step (o1 := (999, lc_v i, [], h2, c, s)) rfl rfl rfl rfl ?_
  exact xV_stop
set_option maxRecDepth 100000 in
set_option maxHeartbeats 4000000 in
/-- rowAt -/
theorem lo_22 (hL : L ≤ 3072) (hi6 : i + 6 ≤ L) (I : lc_I h) : lo_P L xs i 809 h c s := by
  obtain ⟨⟨t, tp⟩, ⟨mem, m12, e9, e4⟩, ⟨sc, sc8, e8, e33⟩, ⟨td, td9, e10, e3⟩, ⟨vc, vc6, e35, e63⟩, e1, e11, ch, pl, si, vs, pi, rwr⟩ := I.2.2.2
  have R := I.2.2.2
  obtain ⟨v1, h1, r1, k1⟩ := lc_3 (D := 49) (C := aC_m_X9_rowAt) (m := xmi_X9_rowAt) (A := [.ref 0, .int (xs (i + 1))]) I.1 I.2.1 as_m_X9_rowAt rfl (by decide) ⟨a_av (by decide) I.2.1, a_an, trivial⟩ rfl
  have l1 : 72 ≤ h1.1.length := hk_n k1 I.2.1
  obtain ⟨v2, h2, r2, k2⟩ := lc_3 (D := 49) (C := aC_m_X10_rowAt) (m := xmi_X10_rowAt) (A := [.ref 39, .int (xs (i + 1))]) k1.1 l1 as_m_X10_rowAt rfl (by decide) ⟨a_av (by decide) l1, a_an, trivial⟩ rfl
  obtain ⟨eh, rfl⟩ := xq_Z (hn := (show List.Nodup [0, 1] by decide)) r1 (fun f => ra9_q (f := f) (x := xs (i + 1)) (lc_Iq I))
  obtain ⟨-, rfl⟩ := xq_Z (hn := (show List.Nodup [0, 1] by decide)) r2 (fun f => ra10_q (f := f) (x := xs (i + 1)) (hk_q k1 I.2.1))
  rw [rwR_a (by rw [← eh]; exact rwr), show xg 0 h1.2.1 29 (xs (i + 1)).toInt.toNat = xg 0 h.2.1 29 (xs (i + 1)).toInt.toNat by rw [← eh]] at r2
  have f1 := k1.2.2
  have f2 := k2.2.2
  have I2 : lc_I h2 := ⟨k2.1, hk_n k2 l1, by rw [k2.2.1, k1.2.1]; exact I.2.2.1, ⟨tp_2 f1 f2 rfl (fun _ => rfl) rfl (fun _ => rfl) rfl (fun _ => rfl) rfl (fun _ => rfl) R.1, rb_2 f1 f2 rfl rfl rfl rfl rfl rfl R.2.1, rb_2 f1 f2 rfl rfl rfl rfl rfl rfl R.2.2.1, rb_2 f1 f2 rfl rfl rfl rfl rfl rfl R.2.2.2.1, rb_2 f1 f2 rfl rfl rfl rfl rfl rfl R.2.2.2.2.1, pr_2 f1 f2 rfl rfl rfl rfl rfl rfl R.2.2.2.2.2.1, pr_2 f1 f2 rfl rfl rfl rfl rfl rfl R.2.2.2.2.2.2.1, ch_2 f1 f2 rfl rfl R.2.2.2.2.2.2.2.1, pl_2 f1 f2 rfl rfl R.2.2.2.2.2.2.2.2.1, SI_2 I.1 I.2.1 k1.1 l1 (fz_run (by decide +kernel) r1) (fz_run (by decide +kernel) r2) f1 f2 rfl rfl R.2.2.2.2.2.2.2.2.2.1, VZ_2 f1 f2 rfl rfl R.2.2.2.2.2.2.2.2.2.2.1, PI_2 I.1 I.2.1 k1.1 l1 (fz_run (by decide +kernel) r1) (qz_run (by decide +kernel) r1) f1 rfl (fz_run (by decide +kernel) r2) (qz_run (by decide +kernel) r2) f2 rfl (RI_p R), rw_2 f1 f2 rfl rfl (RI_w R)⟩⟩
  refine ⟨h2, c, s, ?_, I2, by omega, by omega⟩
  refine xV_step (o1 := (810, lc_v i, [.ref 0], h, c, s)) rfl rfl rfl rfl ?_
  refine xV_arg 1 1 rfl (by omega) hL rfl rfl rfl rfl rfl rfl rfl rfl rfl rfl ?_
  refine xV_call (d := 49) rfl rfl rfl rfl (xa_c_ok (d := 49) (pc := 816) (lv := lc_v i) (nL := 8) (lc_Iq I) rfl).1 r1 ?_
  refine xV_step (o1 := (820, lc_v i, [.ref 39, .int (cond (!xe_c .lt (xs (i + 1)) 0 && !xe_c .ge (xs (i + 1)) 7) (xg 0 h.2.1 29 (xs (i + 1)).toInt.toNat) (Int32.ofInt (-1)))], h1, c, s)) rfl rfl rfl rfl ?_
  refine xV_arg 1 1 rfl (by omega) hL rfl rfl rfl rfl rfl rfl rfl rfl rfl rfl ?_
  refine xV_call (d := 49) rfl rfl rfl rfl (xa_c_ok (d := 49) (pc := 826) (lv := lc_v i) (nL := 8) (hk_q k1 I.2.1) rfl).1 r2 ?_
  refine xV_ic true rfl rfl (xeq_t rfl) ?_
  exact xV_stop
set_option maxRecDepth 100000 in
set_option maxHeartbeats 4000000 in
/-- fault -/
theorem lo_5 (hL : L ≤ 3072) (hi6 : i + 6 ≤ L) (I : lc_I h) : lo_P L xs i 341 h c s := by
  obtain ⟨⟨t, tp⟩, ⟨mem, m12, e9, e4⟩, ⟨sc, sc8, e8, e33⟩, ⟨td, td9, e10, e3⟩, ⟨vc, vc6, e35, e63⟩, e1, e11, ch, pl, si, vs, pi, rwr⟩ := I.2.2.2
  have R := I.2.2.2
  obtain ⟨v1, h1, r1, k1⟩ := lc_3 (D := 49) (C := aC_m_X9_fault) (m := xmi_X9_fault) (A := [.ref 0]) I.1 I.2.1 as_m_X9_fault rfl (by decide) ⟨a_av (by decide) I.2.1, trivial⟩ rfl
  have l1 : 72 ≤ h1.1.length := hk_n k1 I.2.1
  obtain ⟨v2, h2, r2, k2⟩ := lc_3 (D := 49) (C := aC_m_X10_fault) (m := xmi_X10_fault) (A := [.ref 39]) k1.1 l1 as_m_X10_fault rfl (by decide) ⟨a_av (by decide) l1, trivial⟩ rfl
  obtain rfl := xq_Z (hn := (show List.Nodup [0] by decide)) r1 (fun f => fa9_q (f := f) (a := xg 0 h.2.1 0 11) (lc_Iq I) rfl)
  obtain rfl := xq_Z (hn := (show List.Nodup [0] by decide)) r2 (fun f => fa10_q (f := f) (a := xg 0 h.2.1 0 11) (hk_q k1 I.2.1) ((hk_g (c := 39) (k := 13) k1 rfl rfl).trans e11.symm))
  have f1 := k1.2.2
  have f2 := k2.2.2
  have I2 : lc_I h2 := ⟨k2.1, hk_n k2 l1, by rw [k2.2.1, k1.2.1]; exact I.2.2.1, ⟨tp_2 f1 f2 rfl (fun _ => rfl) rfl (fun _ => rfl) rfl (fun _ => rfl) rfl (fun _ => rfl) R.1, rb_2 f1 f2 rfl rfl rfl rfl rfl rfl R.2.1, rb_2 f1 f2 rfl rfl rfl rfl rfl rfl R.2.2.1, rb_2 f1 f2 rfl rfl rfl rfl rfl rfl R.2.2.2.1, rb_2 f1 f2 rfl rfl rfl rfl rfl rfl R.2.2.2.2.1, pr_2 f1 f2 rfl rfl rfl rfl rfl rfl R.2.2.2.2.2.1, pr_2 f1 f2 rfl rfl rfl rfl rfl rfl R.2.2.2.2.2.2.1, ch_2 f1 f2 rfl rfl R.2.2.2.2.2.2.2.1, pl_2 f1 f2 rfl rfl R.2.2.2.2.2.2.2.2.1, SI_2 I.1 I.2.1 k1.1 l1 (fz_run (by decide +kernel) r1) (fz_run (by decide +kernel) r2) f1 f2 rfl rfl R.2.2.2.2.2.2.2.2.2.1, VZ_2 f1 f2 rfl rfl R.2.2.2.2.2.2.2.2.2.2.1, PI_2 I.1 I.2.1 k1.1 l1 (fz_run (by decide +kernel) r1) (qz_run (by decide +kernel) r1) f1 rfl (fz_run (by decide +kernel) r2) (qz_run (by decide +kernel) r2) f2 rfl (RI_p R), rw_2 f1 f2 rfl rfl (RI_w R)⟩⟩
  refine ⟨h2, c, s, ?_, I2, by omega, by omega⟩
  refine xV_step (o1 := (342, lc_v i, [.ref 0], h, c, s)) rfl rfl rfl rfl ?_
  refine xV_call (d := 49) rfl rfl rfl rfl (xa_c_ok (d := 49) (pc := 342) (lv := lc_v i) (nL := 8) (lc_Iq I) rfl).1 r1 ?_
  refine xV_step (o1 := (346, lc_v i, [], h1, c, s)) rfl rfl rfl rfl ?_
  refine xV_step (o1 := (347, lc_v i, [.ref 39], h1, c, s)) rfl rfl rfl rfl ?_
  refine xV_call (d := 49) rfl rfl rfl rfl (xa_c_ok (d := 49) (pc := 347) (lv := lc_v i) (nL := 8) (hk_q k1 I.2.1) rfl).1 r2 ?_
  refine xV_step (o1 := (351, lc_v i, [], h2, c, s)) rfl rfl rfl rfl ?_
  refine xV_step (o1 := (999, lc_v i, [], h2, c, s)) rfl rfl rfl rfl ?_
  exact xV_stop
set_option maxRecDepth 100000 in
set_option maxHeartbeats 4000000 in
/-- count -/
theorem lo_27 (hL : L ≤ 3072) (hi6 : i + 6 ≤ L) (I : lc_I h) : lo_P L xs i 974 h c s := by
  obtain ⟨⟨t, tp⟩, ⟨mem, m12, e9, e4⟩, ⟨sc, sc8, e8, e33⟩, ⟨td, td9, e10, e3⟩, ⟨vc, vc6, e35, e63⟩, e1, e11, ch, pl, si, vs, pi, rwr⟩ := I.2.2.2
  have R := I.2.2.2
  obtain ⟨v1, h1, r1, k1⟩ := lc_3 (D := 49) (C := aC_m_X9_count) (m := xmi_X9_count) (A := [.ref 0, .int (xs (i + 1))]) I.1 I.2.1 as_m_X9_count rfl (by decide) ⟨a_av (by decide) I.2.1, a_an, trivial⟩ rfl
  have l1 : 72 ≤ h1.1.length := hk_n k1 I.2.1
  obtain ⟨v2, h2, r2, k2⟩ := lc_3 (D := 49) (C := aC_m_X10_count) (m := xmi_X10_count) (A := [.ref 39, .int (xs (i + 1))]) k1.1 l1 as_m_X10_count rfl (by decide) ⟨a_av (by decide) l1, a_an, trivial⟩ rfl
  obtain rfl := xq_Z (hn := (show List.Nodup [0, 1] by decide)) r1 (fun f => cn9_q (f := f) (x := xs (i + 1)) (lc_Iq I) e10 e9 e8 e35 tp.1)
  obtain rfl := xq_Z (hn := (show List.Nodup [0, 1] by decide)) r2 (fun f => cn10_q (f := f) (x := xs (i + 1)) (hk_q k1 I.2.1) ((hk_g (c := 39) (k := 3) k1 rfl rfl).trans e3) ((hk_g (c := 39) (k := 4) k1 rfl rfl).trans e4) ((hk_g (c := 39) (k := 33) k1 rfl rfl).trans e33) ((hk_g (c := 39) (k := 63) k1 rfl rfl).trans e63) ((hk_g (c := 39) (k := 2) k1 rfl rfl).trans tp.2.1))
  have f1 := k1.2.2
  have f2 := k2.2.2
  have I2 : lc_I h2 := ⟨k2.1, hk_n k2 l1, by rw [k2.2.1, k1.2.1]; exact I.2.2.1, ⟨tp_2 f1 f2 rfl (fun _ => rfl) rfl (fun _ => rfl) rfl (fun _ => rfl) rfl (fun _ => rfl) R.1, rb_2 f1 f2 rfl rfl rfl rfl rfl rfl R.2.1, rb_2 f1 f2 rfl rfl rfl rfl rfl rfl R.2.2.1, rb_2 f1 f2 rfl rfl rfl rfl rfl rfl R.2.2.2.1, rb_2 f1 f2 rfl rfl rfl rfl rfl rfl R.2.2.2.2.1, pr_2 f1 f2 rfl rfl rfl rfl rfl rfl R.2.2.2.2.2.1, pr_2 f1 f2 rfl rfl rfl rfl rfl rfl R.2.2.2.2.2.2.1, ch_2 f1 f2 rfl rfl R.2.2.2.2.2.2.2.1, pl_2 f1 f2 rfl rfl R.2.2.2.2.2.2.2.2.1, SI_2 I.1 I.2.1 k1.1 l1 (fz_run (by decide +kernel) r1) (fz_run (by decide +kernel) r2) f1 f2 rfl rfl R.2.2.2.2.2.2.2.2.2.1, VZ_2 f1 f2 rfl rfl R.2.2.2.2.2.2.2.2.2.2.1, PI_2 I.1 I.2.1 k1.1 l1 (fz_run (by decide +kernel) r1) (qz_run (by decide +kernel) r1) f1 rfl (fz_run (by decide +kernel) r2) (qz_run (by decide +kernel) r2) f2 rfl (RI_p R), rw_2 f1 f2 rfl rfl (RI_w R)⟩⟩
  refine ⟨h2, c, s, ?_, I2, by omega, by omega⟩
  refine xV_step (o1 := (975, lc_v i, [.ref 0], h, c, s)) rfl rfl rfl rfl ?_
  refine xV_arg 1 1 rfl (by omega) hL rfl rfl rfl rfl rfl rfl rfl rfl rfl rfl ?_
  refine xV_call (d := 49) rfl rfl rfl rfl (xa_c_ok (d := 49) (pc := 981) (lv := lc_v i) (nL := 8) (lc_Iq I) rfl).1 r1 ?_
  refine xV_step (o1 := (985, lc_v i, [], h1, c, s)) rfl rfl rfl rfl ?_
  refine xV_step (o1 := (986, lc_v i, [.ref 39], h1, c, s)) rfl rfl rfl rfl ?_
  refine xV_arg 1 1 rfl (by omega) hL rfl rfl rfl rfl rfl rfl rfl rfl rfl rfl ?_
  refine xV_call (d := 49) rfl rfl rfl rfl (xa_c_ok (d := 49) (pc := 992) (lv := lc_v i) (nL := 8) (hk_q k1 I.2.1) rfl).1 r2 ?_
  refine xV_step (o1 := (996, lc_v i, [], h2, c, s)) rfl rfl rfl rfl ?_
  refine xV_step (o1 := (999, lc_v i, [], h2, c, s)) rfl rfl rfl rfl ?_
  exact xV_stop
set_option maxRecDepth 100000 in
set_option maxHeartbeats 4000000 in
/-- sure -/
theorem lo_25 (hL : L ≤ 3072) (hi6 : i + 6 ≤ L) (I : lc_I h) : lo_P L xs i 912 h c s := by
  obtain ⟨⟨t, tp⟩, ⟨mem, m12, e9, e4⟩, ⟨sc, sc8, e8, e33⟩, ⟨td, td9, e10, e3⟩, ⟨vc, vc6, e35, e63⟩, e1, e11, ch, pl, si, vs, pi, rwr⟩ := I.2.2.2
  have R := I.2.2.2
  obtain ⟨v1, h1, r1, k1⟩ := lc_3 (D := 49) (C := aC_m_X9_sure) (m := xmi_X9_sure) (A := [.ref 0, .int (xs (i + 1)), .int (xs (i + 2))]) I.1 I.2.1 as_m_X9_sure rfl (by decide) ⟨a_av (by decide) I.2.1, a_an, a_an, trivial⟩ rfl
  have l1 : 72 ≤ h1.1.length := hk_n k1 I.2.1
  obtain ⟨v2, h2, r2, k2⟩ := lc_3 (D := 49) (C := aC_m_X10_sure) (m := xmi_X10_sure) (A := [.ref 39, .int (xs (i + 1)), .int (xs (i + 2))]) k1.1 l1 as_m_X10_sure rfl (by decide) ⟨a_av (by decide) l1, a_an, a_an, trivial⟩ rfl
  obtain rfl := xq_Z (hn := (show List.Nodup [0, 1, 2] by decide)) r1 (fun f => su9_q (f := f) (S := fun k => xg 0 h.2.1 36 k) (D := fun k => xg 0 h.2.1 37 k) (P := fun k => xg 0 h.2.1 38 k) (x := xs (i + 1)) (t := xs (i + 2)) (z := nI mem) vc6 e35 (fun _ _ => ⟨rfl, rfl, rfl⟩) e9 (lc_Iq I))
  obtain rfl := xq_Z (hn := (show List.Nodup [0, 1, 2] by decide)) r2 (fun f => su10_q (f := f) (S := fun k => xg 0 h.2.1 36 k) (D := fun k => xg 0 h.2.1 37 k) (P := fun k => xg 0 h.2.1 38 k) (x := xs (i + 1)) (t := xs (i + 2)) (z := nI mem) vc6 ((hk_g (c := 39) (k := 63) k1 rfl rfl).trans e63) (fun k hk' => ⟨(hk_g (c := 68) (k := k) k1 rfl rfl).trans (ch k (by omega)).1.symm, (hk_g (c := 69) (k := k) k1 rfl rfl).trans (ch k (by omega)).2.1.symm, (hk_g (c := 70) (k := k) k1 rfl rfl).trans (ch k (by omega)).2.2.symm⟩) ((hk_g (c := 39) (k := 4) k1 rfl rfl).trans e4) (hk_q k1 I.2.1))
  have f1 := k1.2.2
  have f2 := k2.2.2
  have I2 : lc_I h2 := ⟨k2.1, hk_n k2 l1, by rw [k2.2.1, k1.2.1]; exact I.2.2.1, ⟨tp_2 f1 f2 rfl (fun _ => rfl) rfl (fun _ => rfl) rfl (fun _ => rfl) rfl (fun _ => rfl) R.1, rb_2 f1 f2 rfl rfl rfl rfl rfl rfl R.2.1, rb_2 f1 f2 rfl rfl rfl rfl rfl rfl R.2.2.1, rb_2 f1 f2 rfl rfl rfl rfl rfl rfl R.2.2.2.1, rb_2 f1 f2 rfl rfl rfl rfl rfl rfl R.2.2.2.2.1, pr_2 f1 f2 rfl rfl rfl rfl rfl rfl R.2.2.2.2.2.1, pr_2 f1 f2 rfl rfl rfl rfl rfl rfl R.2.2.2.2.2.2.1, ch_2 f1 f2 rfl rfl R.2.2.2.2.2.2.2.1, pl_2 f1 f2 rfl rfl R.2.2.2.2.2.2.2.2.1, SI_2 I.1 I.2.1 k1.1 l1 (fz_run (by decide +kernel) r1) (fz_run (by decide +kernel) r2) f1 f2 rfl rfl R.2.2.2.2.2.2.2.2.2.1, VZ_2 f1 f2 rfl rfl R.2.2.2.2.2.2.2.2.2.2.1, PI_2 I.1 I.2.1 k1.1 l1 (fz_run (by decide +kernel) r1) (qz_run (by decide +kernel) r1) f1 rfl (fz_run (by decide +kernel) r2) (qz_run (by decide +kernel) r2) f2 rfl (RI_p R), rw_2 f1 f2 rfl rfl (RI_w R)⟩⟩
  refine ⟨h2, c, s, ?_, I2, by omega, by omega⟩
  refine xV_step (o1 := (913, lc_v i, [.ref 0], h, c, s)) rfl rfl rfl rfl ?_
  refine xV_arg 1 1 rfl (by omega) hL rfl rfl rfl rfl rfl rfl rfl rfl rfl rfl ?_
  refine xV_arg 2 2 rfl (by omega) hL rfl rfl rfl rfl rfl rfl rfl rfl rfl rfl ?_
  refine xV_call (d := 49) rfl rfl rfl rfl (xa_c_ok (d := 49) (pc := 925) (lv := lc_v i) (nL := 8) (lc_Iq I) rfl).1 r1 ?_
  refine xV_step (o1 := (929, lc_v i, [], h1, c, s)) rfl rfl rfl rfl ?_
  refine xV_step (o1 := (930, lc_v i, [.ref 39], h1, c, s)) rfl rfl rfl rfl ?_
  refine xV_arg 1 1 rfl (by omega) hL rfl rfl rfl rfl rfl rfl rfl rfl rfl rfl ?_
  refine xV_arg 2 2 rfl (by omega) hL rfl rfl rfl rfl rfl rfl rfl rfl rfl rfl ?_
  refine xV_call (d := 49) rfl rfl rfl rfl (xa_c_ok (d := 49) (pc := 942) (lv := lc_v i) (nL := 8) (hk_q k1 I.2.1) rfl).1 r2 ?_
  refine xV_step (o1 := (946, lc_v i, [], h2, c, s)) rfl rfl rfl rfl ?_
  refine xV_step (o1 := (999, lc_v i, [], h2, c, s)) rfl rfl rfl rfl ?_
  exact xV_stop
set_option maxRecDepth 100000 in
set_option maxHeartbeats 4000000 in
/-- open -/
theorem lo_26 (hL : L ≤ 3072) (hi6 : i + 6 ≤ L) (I : lc_I h) : lo_P L xs i 949 h c s := by
  obtain ⟨⟨t, tp⟩, ⟨mem, m12, e9, e4⟩, ⟨sc, sc8, e8, e33⟩, ⟨td, td9, e10, e3⟩, ⟨vc, vc6, e35, e63⟩, e1, e11, ch, pl, si, vs, pi, rwr⟩ := I.2.2.2
  have R := I.2.2.2
  obtain ⟨v1, h1, r1, k1⟩ := lc_3 (D := 49) (C := aC_m_X9_open) (m := xmi_X9_open) (A := [.ref 0, .int (xs (i + 1))]) I.1 I.2.1 as_m_X9_open rfl (by decide) ⟨a_av (by decide) I.2.1, a_an, trivial⟩ rfl
  have l1 : 72 ≤ h1.1.length := hk_n k1 I.2.1
  obtain ⟨v2, h2, r2, k2⟩ := lc_3 (D := 49) (C := aC_m_X10_open) (m := xmi_X10_open) (A := [.ref 39, .int (xs (i + 1))]) k1.1 l1 as_m_X10_open rfl (by decide) ⟨a_av (by decide) l1, a_an, trivial⟩ rfl
  obtain rfl := xq_Z (hn := (show List.Nodup [0, 1] by decide)) r1 (fun f => op9_q (f := f) (S := fun k => xg 0 h.2.1 36 k) (D := fun k => xg 0 h.2.1 37 k) (P := fun k => xg 0 h.2.1 38 k) (t := xs (i + 1)) vc6 m12 e35 (fun _ _ => ⟨rfl, rfl, rfl⟩) e9 (lc_Iq I))
  obtain rfl := xq_Z (hn := (show List.Nodup [0, 1] by decide)) r2 (fun f => op10_q (f := f) (S := fun k => xg 0 h.2.1 36 k) (D := fun k => xg 0 h.2.1 37 k) (P := fun k => xg 0 h.2.1 38 k) (t := xs (i + 1)) vc6 m12 ((hk_g (c := 39) (k := 63) k1 rfl rfl).trans e63) (fun k hk' => ⟨(hk_g (c := 68) (k := k) k1 rfl rfl).trans (ch k (by omega)).1.symm, (hk_g (c := 69) (k := k) k1 rfl rfl).trans (ch k (by omega)).2.1.symm, (hk_g (c := 70) (k := k) k1 rfl rfl).trans (ch k (by omega)).2.2.symm⟩) ((hk_g (c := 39) (k := 4) k1 rfl rfl).trans e4) (hk_q k1 I.2.1))
  have f1 := k1.2.2
  have f2 := k2.2.2
  have I2 : lc_I h2 := ⟨k2.1, hk_n k2 l1, by rw [k2.2.1, k1.2.1]; exact I.2.2.1, ⟨tp_2 f1 f2 rfl (fun _ => rfl) rfl (fun _ => rfl) rfl (fun _ => rfl) rfl (fun _ => rfl) R.1, rb_2 f1 f2 rfl rfl rfl rfl rfl rfl R.2.1, rb_2 f1 f2 rfl rfl rfl rfl rfl rfl R.2.2.1, rb_2 f1 f2 rfl rfl rfl rfl rfl rfl R.2.2.2.1, rb_2 f1 f2 rfl rfl rfl rfl rfl rfl R.2.2.2.2.1, pr_2 f1 f2 rfl rfl rfl rfl rfl rfl R.2.2.2.2.2.1, pr_2 f1 f2 rfl rfl rfl rfl rfl rfl R.2.2.2.2.2.2.1, ch_2 f1 f2 rfl rfl R.2.2.2.2.2.2.2.1, pl_2 f1 f2 rfl rfl R.2.2.2.2.2.2.2.2.1, SI_2 I.1 I.2.1 k1.1 l1 (fz_run (by decide +kernel) r1) (fz_run (by decide +kernel) r2) f1 f2 rfl rfl R.2.2.2.2.2.2.2.2.2.1, VZ_2 f1 f2 rfl rfl R.2.2.2.2.2.2.2.2.2.2.1, PI_2 I.1 I.2.1 k1.1 l1 (fz_run (by decide +kernel) r1) (qz_run (by decide +kernel) r1) f1 rfl (fz_run (by decide +kernel) r2) (qz_run (by decide +kernel) r2) f2 rfl (RI_p R), rw_2 f1 f2 rfl rfl (RI_w R)⟩⟩
  refine ⟨h2, c, s, ?_, I2, by omega, by omega⟩
  refine xV_step (o1 := (950, lc_v i, [.ref 0], h, c, s)) rfl rfl rfl rfl ?_
  refine xV_arg 1 1 rfl (by omega) hL rfl rfl rfl rfl rfl rfl rfl rfl rfl rfl ?_
  refine xV_call (d := 49) rfl rfl rfl rfl (xa_c_ok (d := 49) (pc := 956) (lv := lc_v i) (nL := 8) (lc_Iq I) rfl).1 r1 ?_
  refine xV_step (o1 := (960, lc_v i, [], h1, c, s)) rfl rfl rfl rfl ?_
  refine xV_step (o1 := (961, lc_v i, [.ref 39], h1, c, s)) rfl rfl rfl rfl ?_
  refine xV_arg 1 1 rfl (by omega) hL rfl rfl rfl rfl rfl rfl rfl rfl rfl rfl ?_
  refine xV_call (d := 49) rfl rfl rfl rfl (xa_c_ok (d := 49) (pc := 967) (lv := lc_v i) (nL := 8) (hk_q k1 I.2.1) rfl).1 r2 ?_
  refine xV_step (o1 := (971, lc_v i, [], h2, c, s)) rfl rfl rfl rfl ?_
  refine xV_step (o1 := (999, lc_v i, [], h2, c, s)) rfl rfl rfl rfl ?_
  exact xV_stop
end XLH
end
