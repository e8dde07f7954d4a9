section
section XS
/-- the String constants: in which pool, at which place, the text, its number -/
def xo_s : List (String × Nat × String × Nat) := [(RX4, 59, "body", 0), (RX6, 75, "body", 0), (RX6, 81, "carry", 1), (RX6, 83, "and", 2), (RX6, 85, "or", 3), (RX6, 87, "of", 4), (RX4, 154, "of", 4), (RX4, 128, "and", 2), (RX4, 123, "or", 3), (RX4, 69, "carry", 1)]
def xo_f (j : Nat) : Int64 := ([1, 1, 2, 6, 24, 120, 720, 5040, 40320, 362880, 3628800, 39916800, 479001600] : List Int64).getD j 0
/-- the String constants by their numbers: lengths, bytes, a char -/
def js_lens : List Nat := [4, 5, 3, 2, 2]
def js_byts : List (List Int32) := [[98, 111, 100, 121], [99, 97, 114, 114, 121], [97, 110, 100], [111, 114], [111, 102]]
def js_len (i : Nat) : Int32 := Int32.ofNat (js_lens.getD i 0)
def js_ch (i k : Nat) : Int32 := (((js_byts.getD i []).getD k 0 &&& 255).toUInt32 % 65536).toInt32
theorem js_u7 : ∀ i, i < 5 → (UInt32.ofNat (i + 7)).toNat = i + 7 := by decide
/-- what is not of ours and stays: String constants, the table of the factorials, the array class of Statutes -/
def xo_ok (sp : Nat → Nat) (A : Nat → Prop) (U : State) (H : Heap) : Prop :=
  (∀ (k : Nat) (q : String × Nat × String × Nat), xo_s[k]? = some q → vk_R q.1 q.2.1 q.2.2.1 (sp (q.2.2.2 + 2)) U) ∧ va_AO RX7 U ∧ va_Z RX2 "FACTORIALS" "[J" (.ref (sp 1)) A U H ∧ va_T .long (sp 1) 13 (fun j => .long (xo_f j)) A U H ∧ vk_S 5 js_lens js_byts (fun i => sp (i + 2)) (fun i => sp (i + 7)) A U H ∧ va_Z "java/lang/String" "COMPACT_STRINGS" "Z" (.int 1) A U H ∧ (va_Z "jdk/internal/util/Preconditions" "SIOOBE_FORMATTER" "Ljava/util/function/BiFunction;" .null A U H ∨ va_Z "jdk/internal/util/Preconditions" "SIOOBE_FORMATTER" "Ljava/util/function/BiFunction;" (.ref (sp 12)) A U H)
theorem xo_ok.warm {sp : Nat → Nat} {A : Nat → Prop} {s U : State} {H : Heap} (hW : s.WarmedH U.vm) (h : xo_ok sp A s H) : xo_ok sp A U H := ⟨fun k q hq => vk_R.warm hW (h.1 k q hq), h.2.1.moved hW.alike, h.2.2.1.moved hW.alike, h.2.2.2.1.moved hW.alike, h.2.2.2.2.1.moved hW.alike, h.2.2.2.2.2.1.moved hW.alike, h.2.2.2.2.2.2.imp (fun z => z.moved hW.alike) (fun z => z.moved hW.alike)⟩
theorem xo_ok.same {sp : Nat → Nat} {A : Nat → Prop} {s U : State} {H : Heap} (hv : U.vm = s.vm) (h : xo_ok sp A s H) : xo_ok sp A U H := by
  have hA : s.vm.Alike U.vm := by rw [hv]; exact Vm.Alike.refl s.vm
  exact ⟨fun k q hq => vk_R.same hv (h.1 k q hq), h.2.1.moved hA, h.2.2.1.moved hA, h.2.2.2.1.moved hA, h.2.2.2.2.1.moved hA, h.2.2.2.2.2.1.moved hA, h.2.2.2.2.2.2.imp (fun z => z.moved hA) (fun z => z.moved hA)⟩
theorem xo_ok.kept {sp : Nat → Nat} {A : Nat → Prop} {U : State} {H H1 : Heap} (h : xo_ok sp A U H) (hq : ∀ a : Nat, a < H.size → ¬ A a → H1[a]? = H[a]?) : xo_ok sp A U H1 := ⟨h.1, h.2.1, h.2.2.1.kept hq, h.2.2.2.1.kept hq, h.2.2.2.2.1.kept hq, h.2.2.2.2.2.1.kept hq, h.2.2.2.2.2.2.imp (fun z => z.kept hq) (fun z => z.kept hq)⟩
theorem xo_ok.narrow {sp : Nat → Nat} {A B : Nat → Prop} {U : State} {H : Heap} (h : xo_ok sp A U H) (hAB : ∀ q, B q → A q) : xo_ok sp B U H := ⟨h.1, h.2.1, h.2.2.1.narrow hAB, h.2.2.2.1.narrow hAB, h.2.2.2.2.1.narrow hAB, h.2.2.2.2.2.1.narrow hAB, h.2.2.2.2.2.2.imp (fun z => z.narrow hAB) (fun z => z.narrow hAB)⟩
def xr_len (i : Instr) : Nat := match i with
  | .bipush _ => 2
  | .ldc _ => 2
  | .iload _ => 2
  | .lload _ => 2
  | .aload _ => 2
  | .istore _ => 2
  | .lstore _ => 2
  | .astore _ => 2
  | .newarray _ => 2
  | .sipush _ => 3
  | .ldc_w _ => 3
  | .ldc2_w _ => 3
  | .iinc _ _ => 3
  | .ifCond _ _ => 3
  | .if_icmp _ _ => 3
  | .goto _ => 3
  | .ifnull _ => 3
  | .if_acmp _ _ => 3
  | .getfield _ => 3
  | .putfield _ => 3
  | .anewarray _ => 3
  | .new _ => 3
  | .invokevirtual _ => 3
  | .invokestatic _ => 3
  | .invokespecial _ => 3
  | .getstatic _ => 3
  | _ => 1
/-- the row's word and numbers -/
def xr_w (own : String) (ini : Bool) (pc : Nat) (r : xr_R) : Bool := match r.1 with
  | .getfield idx => (match vwCl[r.2.2.1]? with
    | some (_, T, N) => Nat.ble (r.2.2.2.1 + 1) N && xw_b r.2.2.2.2.1 r.2.2.2.2.2 (.fieldLink own idx (T r.2.2.2.1).1 (T r.2.2.2.1).2.1 (T r.2.2.2.1).2.2.1)
    | none => false)
  | .putfield idx => (match vwCl[r.2.2.1]? with
    | some (_, T, N) => Nat.ble (r.2.2.2.1 + 1) N && (xw_b r.2.2.2.2.1 r.2.2.2.2.2 (.fieldLink own idx (T r.2.2.2.1).1 (T r.2.2.2.1).2.1 (T r.2.2.2.1).2.2.1) && (!(T r.2.2.2.1).2.2.2 || (ini && decide ((T r.2.2.2.1).1 = own))))
    | none => false)
  | .ldc idx => (match r.2.2.2.1 with
    | 0 => xw_b r.2.2.2.2.1 r.2.2.2.2.2 (.constant own idx (Int32.ofNat r.2.2.1))
    | k + 1 => (match xo_s[k]? with
      | some q => decide (q.1 = own) && (Nat.beq q.2.1 idx && (Nat.beq (q.2.2.2 + 2) r.2.2.1 && Nat.beq (UInt32.ofNat r.2.2.1).toNat r.2.2.1))
      | none => false))
  | .ldc_w idx => xw_b r.2.2.2.2.1 r.2.2.2.2.2 (.constant own idx (Int32.ofNat r.2.2.1))
  | .ldc2_w idx => xw_b r.2.2.2.2.1 r.2.2.2.2.2 (.constantLong own idx (Int64.ofNat r.2.2.1))
  | .new idx => (match vwCl[r.2.2.1]? with
    | some (C, _, _) => xw_b r.2.2.2.2.1 r.2.2.2.2.2 (.classLink own idx C)
    | none => false)
  | .anewarray idx => xw_b r.2.2.2.2.1 r.2.2.2.2.2 (.classLink own idx RX7)
  | .ifCond _ off => decide ((pc : Int) + off = (r.2.2.1 : Int))
  | .if_icmp _ off => decide ((pc : Int) + off = (r.2.2.1 : Int))
  | .if_acmp _ off => decide ((pc : Int) + off = (r.2.2.1 : Int))
  | .goto off => decide ((pc : Int) + off = (r.2.2.1 : Int))
  | .ifnull off => decide ((pc : Int) + off = (r.2.2.1 : Int))
  | _ => true
def xr_b (own : String) (ini : Bool) (cc : ByteArray) (pc : Nat) (r : xr_R) : Bool := decide (decode cc pc = .ok (r.1, r.2.1)) && ((match r.1 with
  | .tableswitch _ _ _ _ => true
  | i => Nat.beq r.2.1 (xr_len i)) && xr_w own ini pc r)
variable {p : Program} {l : Launch} {e : Env} {R : Room} {s : State} {m : MethodId} {args : Array Value} {below : List Frame} {meth : Method} {c : Code} {H : Heap} {locs : List Loc} {Q : State → Prop}
variable {cc : ByteArray} {ls : Array Slot} {D : va_G} {A : Nat → Prop} {ad sp : Nat → Nat} {cy : Nat → ClassId} {nL : Nat} {own : String} {ini : Bool}
/-- what a method's frame stands on -/
def xc_X (p : Program) (s : State) (m : MethodId) (args : Array Value) (meth : Method) (c : Code) (cc : ByteArray) (nL : Nat) (own : String) (ini : Bool) (D : va_G) (cy : Nat → ClassId) (A : Nat → Prop) (sp : Nat → Nat) : Prop :=
  p.tables.exec = Jvm.exec ∧ c.code = cc ∧ c.maxLocals = nL ∧ s.vm.findClass own = some m.cls ∧ (∀ w ∈ xG, w.before args s = true) ∧ va_K D vwCl (xh_ts cy) s ∧ (∀ q, s.heap.size ≤ q → A q) ∧ xo_ok sp A s s.heap ∧ (ini = true → meth.name = "<init>")
/-- where it stands: the heap, the locals -/
def xc_S (D : va_G) (cy : Nat → ClassId) (ad sp : Nat → Nat) (A : Nat → Prop) (s : State) (nL : Nat) (h : xh_H) (lv : List (Nat × Value)) (H : Heap) (locs : List Loc) (ls : Array Slot) : Prop :=
  xh_at D cy ad A h H ∧ va_S A s.heap H locs ∧ lv_has ls nL (xl_m ad sp lv)
theorem xs_ld {k i len pc : Nat} {lv : List (Nat × Value)} {st : List Value} {h : xh_H} {cs ss : Nat} {o : xs_S} (he : xe_ld k i len pc lv st h cs ss = some o) : ∃ v, xl_get lv i = some v ∧ xv_k k v = true ∧ o = (pc + len, lv, v :: st, h, cs, ss) := by
  unfold xe_ld at he
  split at he
  · rename_i v hv
    obtain ⟨h1, h2⟩ := xw_c he
    exact ⟨v, hv, h1, (Option.some.inj h2).symm⟩
  · cases he
theorem xs_st1 {k i len pc nL : Nat} {lv : List (Nat × Value)} {st : List Value} {h : xh_H} {cs ss : Nat} {o : xs_S} (he : xe_st1 k i len pc nL lv st h cs ss = some o) : ∃ v r, st = v :: r ∧ xv_k k v = true ∧ i < nL ∧ o = (pc + len, xl_1 lv i v, r, h, cs, ss) := by
  unfold xe_st1 at he
  split at he
  · rename_i v r
    obtain ⟨h1, h2⟩ := xw_c he
    obtain ⟨h1, h3⟩ := xw_bb h1
    exact ⟨v, r, rfl, h1, xw_ble h3, (Option.some.inj h2).symm⟩
  · cases he
theorem xs_st2 {i len pc nL : Nat} {lv : List (Nat × Value)} {st : List Value} {h : xh_H} {cs ss : Nat} {o : xs_S} (he : xe_st2 i len pc nL lv st h cs ss = some o) : ∃ v r, st = v :: r ∧ xv_k 1 v = true ∧ i + 1 < nL ∧ o = (pc + len, xl_2 lv i v, r, h, cs, ss) := by
  unfold xe_st2 at he
  split at he
  · rename_i v r
    obtain ⟨h1, h2⟩ := xw_c he
    obtain ⟨h1, h3⟩ := xw_bb h1
    exact ⟨v, r, rfl, h1, xw_ble h3, (Option.some.inj h2).symm⟩
  · cases he
theorem xv_k0 {v : Value} (h : xv_k 0 v = true) : ∃ x, v = .int x := by cases v <;> first | exact ⟨_, rfl⟩ | cases h
theorem xv_k1 {v : Value} (h : xv_k 1 v = true) : ∃ x, v = .long x := by cases v <;> first | exact ⟨_, rfl⟩ | cases h
theorem xv_k2 {v : Value} (ad sp : Nat → Nat) (h : xv_k 2 v = true) : (∃ x, xh_v ad sp v = .ref x) ∨ xh_v ad sp v = .null := by
  cases v <;> first | exact Or.inl ⟨_, rfl⟩ | exact Or.inr rfl | cases h
set_option maxHeartbeats 4000000 in
set_option maxRecDepth 100000 in
/-- ONE INSTRUCTION, on the machine -/
theorem xe_1_ok {r : xr_R} {pc : Nat} {lv : List (Nat × Value)} {st : List Value} {h : xh_H} {cells slots : Nat} {pc' : Nat} {lv' : List (Nat × Value)} {st' : List Value} {h' : xh_H} {cells' slots' : Nat}
    (X : xc_X p s m args meth c cc nL own ini D cy A sp) (hr : xr_b own ini cc pc r = true) (he : xe_1 nL r pc lv st h cells slots = some (pc', lv', st', h', cells', slots')) (hcap : cells' ≤ R.cells ∧ slots' ≤ R.slots) (S : xc_S D cy ad sp A s nL h lv H locs ls)
    (kk : ∀ (H1 : Heap) (locs1 : List Loc) (ls1 : Array Slot), xc_S D cy ad sp A s nL h' lv' H1 locs1 ls1 → W p l e R s m args below meth c H1 locs1 cells' slots' Q (F0 m pc' ls1 (st'.map (xh_v ad sp)))) :
    W p l e R s m args below meth c H locs cells slots Q (F0 m pc ls (st.map (xh_v ad sp))) := by
  obtain ⟨hx, hb, hml, hown, hts, hK, hA, hO, hini⟩ := X
  obtain ⟨hat, hS, hl⟩ := S
  obtain ⟨hd, hr⟩ := xw_bb hr
  replace hd := of_decide_eq_true hd
  obtain ⟨hlen, hw⟩ := xw_bb hr
  clear hr
  obtain ⟨i, len, ra, rb, rK, ri⟩ := r
  dsimp only at hd hlen
  cases i with
  | iconst n =>
    cases xw_beq hlen; cases he
    exact lv_iconst hx hb hd rfl (kk _ _ _ ⟨hat, hS, hl⟩)
  | bipush n =>
    cases xw_beq hlen; cases he
    exact lv_bipush hx hb hd rfl (kk _ _ _ ⟨hat, hS, hl⟩)
  | sipush n =>
    cases xw_beq hlen; cases he
    exact lv_sipush hx hb hd rfl (kk _ _ _ ⟨hat, hS, hl⟩)
  | lconst n =>
    cases xw_beq hlen; cases he
    exact lv_lconst hx hb hd rfl (kk _ _ _ ⟨hat, hS, hl⟩)
  | ldc idx =>
    cases xw_beq hlen
    cases rb with
    | zero =>
      cases he
      exact lv_ldc hx hb hown (hts _ (xw_in hw)) hd (kk _ _ _ ⟨hat, hS, hl⟩)
    | succ k =>
      cases he
      have hw : (match xo_s[k]? with
        | some q => decide (q.1 = own) && (Nat.beq q.2.1 idx && (Nat.beq (q.2.2.2 + 2) ra && Nat.beq (UInt32.ofNat ra).toNat ra))
        | none => false) = true := hw
      cases hq : xo_s[k]? with
      | none => rw [hq] at hw; cases hw
      | some q =>
        rw [hq] at hw
        obtain ⟨h1, hw⟩ := xw_bb hw
        obtain ⟨h2, hw⟩ := xw_bb hw
        obtain ⟨h3, h4⟩ := xw_bb hw
        have h1 := of_decide_eq_true h1
        have h2 := xw_beq h2
        have h3 := xw_beq h3
        have h4 := xw_beq h4
        have hR := hO.1 k q hq
        rw [h1, h2, h3] at hR
        refine va_ldcS hx hb hown hR hd ?_
        have := kk _ _ _ ⟨hat, hS, hl⟩
        rw [show List.map (xh_v ad sp) (Value.float (UInt32.ofNat ra) :: st) = Value.ref (sp (UInt32.ofNat ra).toNat) :: st.map (xh_v ad sp) from rfl, h4] at this
        exact this
  | ldc_w idx =>
    cases xw_beq hlen; cases he
    exact lv_ldcw hx hb hown (hts _ (xw_in hw)) hd (kk _ _ _ ⟨hat, hS, hl⟩)
  | ldc2_w idx =>
    cases xw_beq hlen; cases he
    exact lv_ldc2 hx hb hown (hts _ (xw_in hw)) hd (kk _ _ _ ⟨hat, hS, hl⟩)
  | iload_n k =>
    cases xw_beq hlen
    obtain ⟨v, h1, h2, h3⟩ := xs_ld he
    cases h3
    obtain ⟨x, rfl⟩ := xv_k0 h2
    exact lv_iload_n hx hb hd rfl (xl_at hl h1) (kk _ _ _ ⟨hat, hS, hl⟩)
  | iload k =>
    cases xw_beq hlen
    obtain ⟨v, h1, h2, h3⟩ := xs_ld he
    cases h3
    obtain ⟨x, rfl⟩ := xv_k0 h2
    exact lv_iload hx hb hd (xl_at hl h1) (kk _ _ _ ⟨hat, hS, hl⟩)
  | lload_n k =>
    cases xw_beq hlen
    obtain ⟨v, h1, h2, h3⟩ := xs_ld he
    cases h3
    obtain ⟨x, rfl⟩ := xv_k1 h2
    exact lv_lload_n hx hb hd rfl (xl_at hl h1) (kk _ _ _ ⟨hat, hS, hl⟩)
  | lload k =>
    cases xw_beq hlen
    obtain ⟨v, h1, h2, h3⟩ := xs_ld he
    cases h3
    obtain ⟨x, rfl⟩ := xv_k1 h2
    exact lv_lload hx hb hd (xl_at hl h1) (kk _ _ _ ⟨hat, hS, hl⟩)
  | aload_n k =>
    cases xw_beq hlen
    obtain ⟨v, h1, h2, h3⟩ := xs_ld he
    cases h3
    have hv := xl_at hl h1
    have K := kk _ _ _ ⟨hat, hS, hl⟩
    rw [List.map_cons] at K
    rcases xv_k2 ad sp h2 with ⟨x, hx2⟩ | hx2
    · rw [hx2] at hv K
      exact lv_aload_n hx hb hd rfl hv K
    · rw [hx2] at hv K
      exact lv_aload_nN hx hb hd rfl hv K
  | aload k =>
    cases xw_beq hlen
    obtain ⟨v, h1, h2, h3⟩ := xs_ld he
    cases h3
    have hv := xl_at hl h1
    have K := kk _ _ _ ⟨hat, hS, hl⟩
    rw [List.map_cons] at K
    rcases xv_k2 ad sp h2 with ⟨x, hx2⟩ | hx2
    · rw [hx2] at hv K
      exact lv_aload hx hb hd hv K
    · rw [hx2] at hv K
      exact lv_aloadN hx hb hd hv K
  | istore_n k =>
    cases xw_beq hlen
    obtain ⟨v, q, rfl, h2, h4, h3⟩ := xs_st1 he
    cases h3
    obtain ⟨x, rfl⟩ := xv_k0 h2
    exact lv_istore_n hx hb hd rfl hl h4 (xl_m1 ad sp lv _ (.int x)) (fun ls1 hl1 => kk _ _ _ ⟨hat, hS, hl1⟩)
  | istore k =>
    cases xw_beq hlen
    obtain ⟨v, q, rfl, h2, h4, h3⟩ := xs_st1 he
    cases h3
    obtain ⟨x, rfl⟩ := xv_k0 h2
    exact lv_istore hx hb hd hl h4 (xl_m1 ad sp lv _ (.int x)) (fun ls1 hl1 => kk _ _ _ ⟨hat, hS, hl1⟩)
  | astore_n k =>
    cases xw_beq hlen
    obtain ⟨v, q, rfl, h2, h4, h3⟩ := xs_st1 he
    cases h3
    have hm := xl_m1 ad sp lv k v
    rw [List.map_cons]
    rcases xv_k2 ad sp h2 with ⟨x, hx2⟩ | hx2
    · rw [hx2] at hm ⊢
      exact lv_astore_n hx hb hd rfl hl h4 hm (fun ls1 hl1 => kk _ _ _ ⟨hat, hS, hl1⟩)
    · rw [hx2] at hm ⊢
      exact lv_astore_nN hx hb hd rfl hl h4 hm (fun ls1 hl1 => kk _ _ _ ⟨hat, hS, hl1⟩)
  | astore k =>
    cases xw_beq hlen
    obtain ⟨v, q, rfl, h2, h4, h3⟩ := xs_st1 he
    cases h3
    have hm := xl_m1 ad sp lv k v
    rw [List.map_cons]
    rcases xv_k2 ad sp h2 with ⟨x, hx2⟩ | hx2
    · rw [hx2] at hm ⊢
      exact lv_astore hx hb hd hl h4 hm (fun ls1 hl1 => kk _ _ _ ⟨hat, hS, hl1⟩)
    · rw [hx2] at hm ⊢
      exact lv_astoreN hx hb hd hl h4 hm (fun ls1 hl1 => kk _ _ _ ⟨hat, hS, hl1⟩)
  | lstore_n k =>
    cases xw_beq hlen
    obtain ⟨v, q, rfl, h2, h4, h3⟩ := xs_st2 he
    cases h3
    obtain ⟨x, rfl⟩ := xv_k1 h2
    exact lv_lstore_n hx hb hd rfl hl h4 (xl_m2 ad sp lv _ (.long x)) (fun ls1 hl1 => kk _ _ _ ⟨hat, hS, hl1⟩)
  | lstore k =>
    cases xw_beq hlen
    obtain ⟨v, q, rfl, h2, h4, h3⟩ := xs_st2 he
    cases h3
    obtain ⟨x, rfl⟩ := xv_k1 h2
    exact lv_lstore hx hb hd hl h4 (xl_m2 ad sp lv _ (.long x)) (fun ls1 hl1 => kk _ _ _ ⟨hat, hS, hl1⟩)
  | iinc k n =>
    cases xw_beq hlen
    have he : (match xl_get lv k with
      | some (.int x) => cond (Nat.ble (k + 1) nL) (some (pc + 3, xl_1 lv k (.int (x + Int32.ofInt n)), st, h, cells, slots)) none
      | _ => none) = some (pc', lv', st', h', cells', slots') := he
    split at he
    · rename_i x hv
      obtain ⟨h1, h2⟩ := xw_c he
      cases h2
      obtain ⟨k2, hk2⟩ := xl_ix (ad := ad) (sp := sp) hv
      exact lv_iinc (k := k2) hx hb hd hl hk2 rfl (xw_ble h1) (xl_m1 ad sp lv k (.int (x + Int32.ofInt n))) (fun ls1 hl1 => kk _ _ _ ⟨hat, hS, hl1⟩)
    · cases he
  | iadd =>
    cases xw_beq hlen
    obtain ⟨y, x, q, rfl, h2⟩ := xp_ii_v he
    cases h2
    exact lv_iadd hx hb hd (kk _ _ _ ⟨hat, hS, hl⟩)
  | isub =>
    cases xw_beq hlen
    obtain ⟨y, x, q, rfl, h2⟩ := xp_ii_v he
    cases h2
    exact lv_isub hx hb hd (kk _ _ _ ⟨hat, hS, hl⟩)
  | imul =>
    cases xw_beq hlen
    obtain ⟨y, x, q, rfl, h2⟩ := xp_ii_v he
    cases h2
    exact lv_imul hx hb hd (kk _ _ _ ⟨hat, hS, hl⟩)
  | iand =>
    cases xw_beq hlen
    obtain ⟨y, x, q, rfl, h2⟩ := xp_ii_v he
    cases h2
    exact lv_iand hx hb hd (kk _ _ _ ⟨hat, hS, hl⟩)
  | ior =>
    cases xw_beq hlen
    obtain ⟨y, x, q, rfl, h2⟩ := xp_ii_v he
    cases h2
    exact lv_ior hx hb hd (kk _ _ _ ⟨hat, hS, hl⟩)
  | ixor =>
    cases xw_beq hlen
    obtain ⟨y, x, q, rfl, h2⟩ := xp_ii_v he
    cases h2
    exact lv_ixor hx hb hd (kk _ _ _ ⟨hat, hS, hl⟩)
  | ishl =>
    cases xw_beq hlen
    obtain ⟨y, x, q, rfl, h2⟩ := xp_ii_v he
    cases h2
    exact lv_ishl hx hb hd (kk _ _ _ ⟨hat, hS, hl⟩)
  | ishr =>
    cases xw_beq hlen
    obtain ⟨y, x, q, rfl, h2⟩ := xp_ii_v he
    cases h2
    exact lv_ishr hx hb hd (kk _ _ _ ⟨hat, hS, hl⟩)
  | iushr =>
    cases xw_beq hlen
    obtain ⟨y, x, q, rfl, h2⟩ := xp_ii_v he
    cases h2
    exact lv_iushr hx hb hd rfl (kk _ _ _ ⟨hat, hS, hl⟩)
  | irem =>
    cases xw_beq hlen
    obtain ⟨y, x, q, rfl, h2⟩ := xp_ii_v he
    obtain ⟨h3, h2⟩ := xw_c0 h2
    cases h2
    exact lv_irem hx hb hd (of_decide_eq_false h3) (kk _ _ _ ⟨hat, hS, hl⟩)
  | ladd =>
    cases xw_beq hlen
    obtain ⟨y, x, q, rfl, h2⟩ := xp_ll_v he
    cases h2
    exact lv_ladd hx hb hd (kk _ _ _ ⟨hat, hS, hl⟩)
  | lsub =>
    cases xw_beq hlen
    obtain ⟨y, x, q, rfl, h2⟩ := xp_ll_v he
    cases h2
    exact lv_lsub hx hb hd (kk _ _ _ ⟨hat, hS, hl⟩)
  | lmul =>
    cases xw_beq hlen
    obtain ⟨y, x, q, rfl, h2⟩ := xp_ll_v he
    cases h2
    exact lv_lmul hx hb hd (kk _ _ _ ⟨hat, hS, hl⟩)
  | land =>
    cases xw_beq hlen
    obtain ⟨y, x, q, rfl, h2⟩ := xp_ll_v he
    cases h2
    exact lv_land hx hb hd (kk _ _ _ ⟨hat, hS, hl⟩)
  | lor =>
    cases xw_beq hlen
    obtain ⟨y, x, q, rfl, h2⟩ := xp_ll_v he
    cases h2
    exact lv_lor hx hb hd (kk _ _ _ ⟨hat, hS, hl⟩)
  | ldiv =>
    cases xw_beq hlen
    obtain ⟨y, x, q, rfl, h2⟩ := xp_ll_v he
    obtain ⟨h3, h2⟩ := xw_c0 h2
    cases h2
    exact lv_ldiv hx hb hd (of_decide_eq_false h3) (kk _ _ _ ⟨hat, hS, hl⟩)
  | lrem =>
    cases xw_beq hlen
    obtain ⟨y, x, q, rfl, h2⟩ := xp_ll_v he
    obtain ⟨h3, h2⟩ := xw_c0 h2
    cases h2
    exact lv_lrem hx hb hd (of_decide_eq_false h3) (kk _ _ _ ⟨hat, hS, hl⟩)
  | lushr =>
    cases xw_beq hlen
    obtain ⟨y, x, q, rfl, h2⟩ := xp_il_v he
    cases h2
    exact lv_lushr hx hb hd rfl (kk _ _ _ ⟨hat, hS, hl⟩)
  | lshl =>
    cases xw_beq hlen
    obtain ⟨y, x, q, rfl, h2⟩ := xp_il_v he
    cases h2
    exact lv_lshl hx hb hd rfl (kk _ _ _ ⟨hat, hS, hl⟩)
  | lcmp =>
    cases xw_beq hlen
    obtain ⟨y, x, q, rfl, h2⟩ := xp_ll_v he
    cases h2
    exact W.lcmp hx hb hd (kk _ _ _ ⟨hat, hS, hl⟩)
  | i2l =>
    cases xw_beq hlen
    obtain ⟨x, q, rfl, h2⟩ := xp_i_v he
    cases h2
    exact lv_i2l hx hb hd rfl (kk _ _ _ ⟨hat, hS, hl⟩)
  | l2i =>
    cases xw_beq hlen
    obtain ⟨x, q, rfl, h2⟩ := xp_l_v he
    cases h2
    exact lv_l2i hx hb hd rfl (kk _ _ _ ⟨hat, hS, hl⟩)
  | i2b =>
    cases xw_beq hlen
    obtain ⟨x, q, rfl, h2⟩ := xp_i_v he
    cases h2
    exact lv_i2b hx hb hd rfl (kk _ _ _ ⟨hat, hS, hl⟩)
  | i2c =>
    cases xw_beq hlen
    obtain ⟨x, q, rfl, h2⟩ := xp_i_v he
    cases h2
    exact lv_i2c hx hb hd rfl (kk _ _ _ ⟨hat, hS, hl⟩)
  | dup =>
    cases xw_beq hlen
    match st, he with
    | a :: q, he =>
      obtain ⟨h1, h2⟩ := xw_c he
      cases h2
      exact lv_dup hx hb hd ((xh_v_cat ad sp a).trans (xw_beq h1)) (kk _ _ _ ⟨hat, hS, hl⟩)
  | pop =>
    cases xw_beq hlen
    match st, he with
    | a :: q, he =>
      obtain ⟨h1, h2⟩ := xw_c he
      cases h2
      exact lv_pop hx hb hd ((xh_v_cat ad sp a).trans (xw_beq h1)) (kk _ _ _ ⟨hat, hS, hl⟩)
  | pop2 =>
    cases xw_beq hlen
    obtain ⟨x, q, rfl, h2⟩ := xp_l_v he
    cases h2
    exact lv_pop2_2 hx hb hd rfl (kk _ _ _ ⟨hat, hS, hl⟩)
  | dup2 =>
    cases xw_beq hlen
    match st, he with
    | a :: b :: q, he =>
      obtain ⟨h1, h2⟩ := xw_c he
      obtain ⟨h1, h3⟩ := xw_bb h1
      cases h2
      exact lv_dup2_11 hx hb hd ((xh_v_cat ad sp a).trans (xw_beq h1)) ((xh_v_cat ad sp b).trans (xw_beq h3)) (kk _ _ _ ⟨hat, hS, hl⟩)
  | dup_x2 =>
    cases xw_beq hlen
    match st, he with
    | a :: b :: d :: q, he =>
      obtain ⟨h1, h2⟩ := xw_c he
      obtain ⟨h1, h3⟩ := xw_bb h1
      obtain ⟨h3, h4⟩ := xw_bb h3
      cases h2
      exact lv_dup_x2 hx hb hd ((xh_v_cat ad sp a).trans (xw_beq h1)) ((xh_v_cat ad sp b).trans (xw_beq h3)) ((xh_v_cat ad sp d).trans (xw_beq h4)) (kk _ _ _ ⟨hat, hS, hl⟩)
  | ifCond k off =>
    cases xw_beq hlen
    obtain ⟨x, q, rfl, h2⟩ := xp_i_v he
    have hw := of_decide_eq_true hw
    cases hbb : xe_c k x 0 with
    | true =>
      rw [hbb] at h2
      cases h2
      have K := kk _ _ _ ⟨hat, hS, hl⟩
      cases k with
      | eq => exact lv_if_eq hx hb hd hw (fun _ => K) (fun z => absurd hbb (by simp [xe_c, z]))
      | ne => exact lv_if_ne hx hb hd hw (fun _ => K) (fun z => absurd hbb (by simp [xe_c, z]))
      | lt => exact lv_if_lt hx hb hd hw (fun _ => K) (fun z => absurd hbb (by simp [xe_c, z]))
      | ge => exact lv_if_ge hx hb hd hw (fun _ => K) (fun z => absurd hbb (by simp [xe_c, z]))
      | gt => exact lv_if_gt hx hb hd hw (fun _ => K) (fun z => absurd hbb (by simp [xe_c, z]))
      | le => exact lv_if_le hx hb hd hw (fun _ => K) (fun z => absurd hbb (by simp [xe_c, z]))
    | false =>
      rw [hbb] at h2
      cases h2
      have K := kk _ _ _ ⟨hat, hS, hl⟩
      cases k with
      | eq => exact lv_if_eq hx hb hd hw (fun z => absurd hbb (by simp [xe_c, z])) (fun _ => K)
      | ne => exact lv_if_ne hx hb hd hw (fun z => absurd hbb (by simp [xe_c, z])) (fun _ => K)
      | lt => exact lv_if_lt hx hb hd hw (fun z => absurd hbb (by simp [xe_c, z])) (fun _ => K)
      | ge => exact lv_if_ge hx hb hd hw (fun z => absurd hbb (by simp [xe_c, z])) (fun _ => K)
      | gt => exact lv_if_gt hx hb hd hw (fun z => absurd hbb (by simp [xe_c, z])) (fun _ => K)
      | le => exact lv_if_le hx hb hd hw (fun z => absurd hbb (by simp [xe_c, z])) (fun _ => K)
  | if_icmp k off =>
    cases xw_beq hlen
    obtain ⟨y, x, q, rfl, h2⟩ := xp_ii_v he
    have hw := of_decide_eq_true hw
    cases hbb : xe_c k x y with
    | true =>
      rw [hbb] at h2
      cases h2
      have K := kk _ _ _ ⟨hat, hS, hl⟩
      cases k with
      | eq => exact lv_icmp_eq hx hb hd hw (fun _ => K) (fun z => absurd hbb (by simp [xe_c, z]))
      | ne => exact lv_icmp_ne hx hb hd hw (fun _ => K) (fun z => absurd hbb (by simp [xe_c, z]))
      | lt => exact lv_icmp_lt hx hb hd hw (fun _ => K) (fun z => absurd hbb (by simp [xe_c, z]))
      | ge => exact lv_icmp_ge hx hb hd hw (fun _ => K) (fun z => absurd hbb (by simp [xe_c, z]))
      | gt => exact lv_icmp_gt hx hb hd hw (fun _ => K) (fun z => absurd hbb (by simp [xe_c, z]))
      | le => exact lv_icmp_le hx hb hd hw (fun _ => K) (fun z => absurd hbb (by simp [xe_c, z]))
    | false =>
      rw [hbb] at h2
      cases h2
      have K := kk _ _ _ ⟨hat, hS, hl⟩
      cases k with
      | eq => exact lv_icmp_eq hx hb hd hw (fun z => absurd hbb (by simp [xe_c, z])) (fun _ => K)
      | ne => exact lv_icmp_ne hx hb hd hw (fun z => absurd hbb (by simp [xe_c, z])) (fun _ => K)
      | lt => exact lv_icmp_lt hx hb hd hw (fun z => absurd hbb (by simp [xe_c, z])) (fun _ => K)
      | ge => exact lv_icmp_ge hx hb hd hw (fun z => absurd hbb (by simp [xe_c, z])) (fun _ => K)
      | gt => exact lv_icmp_gt hx hb hd hw (fun z => absurd hbb (by simp [xe_c, z])) (fun _ => K)
      | le => exact lv_icmp_le hx hb hd hw (fun z => absurd hbb (by simp [xe_c, z])) (fun _ => K)
  | goto off =>
    cases xw_beq hlen; cases he
    exact lv_goto hx hb hd (of_decide_eq_true hw) (kk _ _ _ ⟨hat, hS, hl⟩)
  | ifnull off =>
    cases xw_beq hlen
    have hw := of_decide_eq_true hw
    match st, he with
    | .ref _ :: q, he =>
      cases he
      exact lv_ifnull hx hb hd (kk _ _ _ ⟨hat, hS, hl⟩)
    | .null :: q, he =>
      cases he
      exact lv_ifnullN hx hb hd hw (kk _ _ _ ⟨hat, hS, hl⟩)
  | if_acmp k off =>
    cases xw_beq hlen
    cases k with
    | eq => cases he
    | ne =>
      match st, he with
      | .ref y :: .ref x :: q, he =>
        obtain ⟨h1, h2⟩ := xw_c he
        obtain ⟨h1, h3⟩ := xw_bb h1
        have hw := of_decide_eq_true hw
        have lx : x < h.1.length := xw_ble h1
        have ly : y < h.1.length := xw_ble h3
        have inj : ad x = ad y → x = y := by
          intro z
          obtain ⟨sx, hsx⟩ : ∃ sx, h.1[x]? = some sx := ⟨_, List.getElem?_eq_getElem lx⟩
          obtain ⟨sy, hsy⟩ : ∃ sy, h.1[y]? = some sy := ⟨_, List.getElem?_eq_getElem ly⟩
          exact hat.2.1.1 x y _ _ (xh_ws_at hsx) (xh_ws_at hsy) z
        refine lv_acmp_ne (rx := some (ad x)) (ry := some (ad y)) hx hb hd hw (fun z => ?_) (fun z => ?_)
        · have hne : x ≠ y := fun w => z (by rw [w])
          have hb2 : Nat.beq x y = false := by cases hq : Nat.beq x y with | false => rfl | true => exact absurd (Nat.eq_of_beq_eq_true hq) hne
          rw [hb2] at h2
          cases h2
          exact kk _ _ _ ⟨hat, hS, hl⟩
        · have heq : x = y := inj (Option.some.inj z)
          have hb2 : Nat.beq x y = true := by rw [heq]; exact Nat.beq_refl y
          rw [hb2] at h2
          cases h2
          exact kk _ _ _ ⟨hat, hS, hl⟩
  | tableswitch dflt lo hi offs =>
    obtain ⟨x, q, rfl, h2⟩ := xp_i_v he
    by_cases hin : x.toInt < lo ∨ hi < x.toInt
    · have hbool : (decide (x.toInt < lo) || decide (hi < x.toInt)) = true := by simpa using hin
      rw [hbool] at h2
      obtain ⟨h3, h2⟩ := xw_c h2
      cases h2
      have h3 := of_decide_eq_true h3
      exact lv_tableOut hx hb hd hin (by omega) (kk _ _ _ ⟨hat, hS, hl⟩)
    · have hbool : (decide (x.toInt < lo) || decide (hi < x.toInt)) = false := by simpa using hin
      rw [hbool] at h2
      cases ho : offs[(x.toInt - lo).toNat]? with
      | none => rw [ho] at h2; cases h2
      | some off =>
        rw [ho] at h2
        obtain ⟨h3, h2⟩ := xw_c h2
        cases h2
        have h3 := of_decide_eq_true h3
        exact lv_tableIn hx hb hd (fun z => hin (Or.inl z)) (fun z => hin (Or.inr z)) ho (by omega) (kk _ _ _ ⟨hat, hS, hl⟩)
  | getfield idx =>
    cases xw_beq hlen
    obtain ⟨a, q, rfl, h2⟩ := xp_r_v he
    dsimp only at h2
    split at h2
    · rename_i ci hc
      obtain ⟨h3, h2a⟩ := xw_c h2
      clear h2
      replace h3 := xw_beq h3
      subst h3
      cases h2a
      have hw : (match vwCl[ci]? with
        | some (_, T, N) => Nat.ble (rb + 1) N && xw_b rK ri (.fieldLink own idx (T rb).1 (T rb).2.1 (T rb).2.2.1)
        | none => false) = true := hw
      cases hv : vwCl[ci]? with
      | none => rw [hv] at hw; cases hw
      | some t =>
        obtain ⟨C, T, N⟩ := t
        rw [hv] at hw
        obtain ⟨h4, h5⟩ := xw_bb hw
        obtain ⟨k1, k2, -⟩ := xk_ok ci C T N hv
        have h4 : rb < N := xw_ble h4
        refine va_get (D := D) (v := xh_fv ad h a (xh_ty ci rb) rb) hx hb hts k2 hown hK hat.1 a (xh_ws_at hc) hv rb h4 (hts _ (xw_in h5)) (fun _ h9 => h9) (xh_fs_get (by rw [← k1]; exact h4)) hd ?_
        have K := kk _ _ _ ⟨hat, hS, hl⟩
        rw [List.map_cons, xh_v_get] at K
        exact K
    · cases h2
  | putfield idx =>
    cases xw_beq hlen
    obtain ⟨v, a, q, rfl, h2⟩ := xp_vr_v he
    dsimp only at h2
    split at h2
    · rename_i ci hc
      obtain ⟨h3, h2a⟩ := xw_c h2
      clear h2
      replace h3 := xw_beq h3
      subst h3
      have hw : (match vwCl[ci]? with
        | some (_, T, N) => Nat.ble (rb + 1) N && (xw_b rK ri (.fieldLink own idx (T rb).1 (T rb).2.1 (T rb).2.2.1) && (!(T rb).2.2.2 || (ini && decide ((T rb).1 = own))))
        | none => false) = true := hw
      cases hv : vwCl[ci]? with
      | none => rw [hv] at hw; cases hw
      | some t =>
        obtain ⟨C, T, N⟩ := t
        rw [hv] at hw
        obtain ⟨h4, h5⟩ := xw_bb hw
        obtain ⟨h5, h6⟩ := xw_bb h5
        obtain ⟨k1, k2, k3, k4, -⟩ := xk_ok ci C T N hv
        have h4 : rb < N := xw_ble h4
        have hfin : (T rb).2.2.2 = false ∨ (meth.name = "<init>" ∧ (T rb).1 = own) := by
          cases hf : (T rb).2.2.2 with
          | false => exact Or.inl rfl
          | true =>
            rw [hf] at h6
            obtain ⟨h7, h8⟩ := xw_bb (show (ini && decide ((T rb).1 = own)) = true from by simpa using h6)
            exact Or.inr ⟨hini h7, of_decide_eq_true h8⟩
        obtain ⟨h1, hp, h2⟩ := Option.map_eq_some_iff.mp h2a
        cases h2
        have P := @xa_put p l e R s m args below meth c H locs cells slots Q cc pc ls (List.map (xh_v ad sp) st') D A ad cy h s.heap a hx hb own (T rb).1 C T N ci idx xG hts k2 k3 k4 hown hK hat hS hc hv k1 rb h4 (hts _ (xw_in h5)) (fun _ h9 => h9) hfin
        cases hty : xh_ty ci rb with
        | int =>
          rw [hty] at P hp
          match v, hp with
          | .int x, hp =>
            cases hp
            exact P (v := .int x) rfl rfl (h' := xh_ui h a rb x) rfl (fun c' hc' => ⟨xh_up_o hc', rfl, rfl⟩) (by show Value.int (xg _ (xh_up _ _ _ _ _) _ _) = _; rw [xh_up_s]) (fun j hj => by cases xh_ty ci j <;> simp [xh_fv, xh_ui, xh_up_k hj]) hd (fun H1 locs1 a1 a2 => kk _ _ _ ⟨a1, a2, hl⟩)
        | boolean =>
          rw [hty] at P hp
          match v, hp with
          | .int x, hp =>
            obtain ⟨h7, hp⟩ := xw_c hp
            cases hp
            have h7 : x = 0 ∨ x = 1 := by simpa using h7
            refine P (v := .int x) ?_ ?_ (h' := xh_ui h a rb x) rfl (fun c' hc' => ⟨xh_up_o hc', rfl, rfl⟩) (by show Value.int (xg _ (xh_up _ _ _ _ _) _ _) = _; rw [xh_up_s]) (fun j hj => by cases xh_ty ci j <;> simp [xh_fv, xh_ui, xh_up_k hj]) hd (fun H1 locs1 a1 a2 => kk _ _ _ ⟨a1, a2, hl⟩)
            · rcases h7 with rfl | rfl <;> rfl
            · rcases h7 with rfl | rfl <;> rfl
        | long =>
          rw [hty] at P hp
          match v, hp with
          | .long x, hp =>
            cases hp
            exact P (v := .long x) rfl rfl (h' := xh_ul h a rb x) rfl (fun c' hc' => ⟨rfl, xh_up_o hc', rfl⟩) (by show Value.long (xg _ (xh_up _ _ _ _ _) _ _) = _; rw [xh_up_s]) (fun j hj => by cases xh_ty ci j <;> simp [xh_fv, xh_ul, xh_up_k hj]) hd (fun H1 locs1 a1 a2 => kk _ _ _ ⟨a1, a2, hl⟩)
        | object o =>
          rw [hty] at P hp
          match v, hp with
          | .ref x, hp =>
            cases hp
            exact P (v := .ref (ad x)) rfl rfl (h' := xh_ur h a rb (some x)) rfl (fun c' hc' => ⟨rfl, rfl, xh_up_o hc'⟩) (by show va_rf (Option.map ad (xg _ (xh_up _ _ _ _ _) _ _)) = _; rw [xh_up_s]; rfl) (fun j hj => by cases xh_ty ci j <;> simp [xh_fv, xh_ur, xh_up_k hj]) hd (fun H1 locs1 a1 a2 => kk _ _ _ ⟨a1, a2, hl⟩)
        | array o =>
          rw [hty] at P hp
          match v, hp with
          | .ref x, hp =>
            cases hp
            exact P (v := .ref (ad x)) rfl rfl (h' := xh_ur h a rb (some x)) rfl (fun c' hc' => ⟨rfl, rfl, xh_up_o hc'⟩) (by show va_rf (Option.map ad (xg _ (xh_up _ _ _ _ _) _ _)) = _; rw [xh_up_s]; rfl) (fun j hj => by cases xh_ty ci j <;> simp [xh_fv, xh_ur, xh_up_k hj]) hd (fun H1 locs1 a1 a2 => kk _ _ _ ⟨a1, a2, hl⟩)
        | byte => rw [hty] at hp; cases hp
        | char => rw [hty] at hp; cases hp
        | double => rw [hty] at hp; cases hp
        | float => rw [hty] at hp; cases hp
        | short => rw [hty] at hp; cases hp
    · cases h2
  | iaload =>
    cases xw_beq hlen
    obtain ⟨j, a, q, rfl, h2⟩ := xp_ir_v he
    split at h2
    · rename_i n hc
      obtain ⟨h3, h2⟩ := xw_c h2
      cases h2
      exact va_iald hx hb hK hat.1 a 0 (xh_ws_at hc) rfl (xe_in_v h3) hd (kk _ _ _ ⟨hat, hS, hl⟩)
    · cases h2
  | baload =>
    cases xw_beq hlen
    obtain ⟨j, a, q, rfl, h2⟩ := xp_ir_v he
    split at h2
    · rename_i n hc
      obtain ⟨h3, h2⟩ := xw_c h2
      cases h2
      exact va_bald hx hb hK hat.1 a 1 (xh_ws_at hc) rfl (xe_in_v h3) hd (kk _ _ _ ⟨hat, hS, hl⟩)
    · rename_i n hc
      obtain ⟨h3, h2⟩ := xw_c h2
      cases h2
      exact va_zald hx hb hK hat.1 a 2 (xh_ws_at hc) rfl (xe_in_v h3) hd (kk _ _ _ ⟨hat, hS, hl⟩)
    · cases h2
  | laload =>
    cases xw_beq hlen
    obtain ⟨j, a, q, rfl, h2⟩ := xp_ir_v he
    split at h2
    · rename_i n hc
      obtain ⟨h3, h2⟩ := xw_c h2
      cases h2
      exact va_lald hx hb hK hat.1 a 3 (xh_ws_at hc) rfl (xe_in_v h3) hd (kk _ _ _ ⟨hat, hS, hl⟩)
    · cases h2
  | aaload =>
    cases xw_beq hlen
    obtain ⟨j, a, q, rfl, h2⟩ := xp_ir_v he
    split at h2
    · rename_i n hc
      obtain ⟨h3, h2⟩ := xw_c h2
      cases h2
      refine va_aldq hx hb hK hat.1 a 4 (xh_ws_at hc) rfl (xe_in_v h3) hd ?_
      have K := kk _ _ _ ⟨hat, hS, hl⟩
      rw [List.map_cons, xh_v_rf] at K
      exact K
    · cases h2
  | iastore =>
    cases xw_beq hlen
    obtain ⟨x, j, a, q, rfl, h2⟩ := xp_iir_v he
    split at h2
    · rename_i n hc
      obtain ⟨h3, h2⟩ := xw_c h2
      cases h2
      exact xa_iast hx hb hK hat hS hc (xe_in_v h3) hd (fun H1 locs1 a1 a2 => kk _ _ _ ⟨a1, a2, hl⟩)
    · cases h2
  | bastore =>
    cases xw_beq hlen
    obtain ⟨x, j, a, q, rfl, h2⟩ := xp_iir_v he
    split at h2
    · rename_i n hc
      obtain ⟨h3, h2⟩ := xw_c h2
      cases h2
      exact xa_bast hx hb hK hat hS hc (xe_in_v h3) hd (fun H1 locs1 a1 a2 => kk _ _ _ ⟨a1, a2, hl⟩)
    · rename_i n hc
      obtain ⟨h3, h2⟩ := xw_c h2
      cases h2
      exact xa_zast hx hb hK hat hS hc (xe_in_v h3) hd (fun H1 locs1 a1 a2 => kk _ _ _ ⟨a1, a2, hl⟩)
    · cases h2
  | lastore =>
    cases xw_beq hlen
    obtain ⟨x, j, a, q, rfl, h2⟩ := xp_lir_v he
    split at h2
    · rename_i n hc
      obtain ⟨h3, h2⟩ := xw_c h2
      cases h2
      exact xa_last hx hb hK hat hS hc (xe_in_v h3) hd (fun H1 locs1 a1 a2 => kk _ _ _ ⟨a1, a2, hl⟩)
    · cases h2
  | aastore =>
    cases xw_beq hlen
    obtain ⟨x, j, a, q, rfl, h2⟩ := xp_rir_v he
    split at h2
    · rename_i n hc
      split at h2
      · rename_i hv
        obtain ⟨h3, h2⟩ := xw_c h2
        cases h2
        exact xa_astq hx hb hK hat hS hc hv (xe_in_v h3) hd (fun H1 locs1 a1 a2 => kk _ _ _ ⟨a1, a2, hl⟩)
      · cases h2
    · cases h2
  | arraylength =>
    cases xw_beq hlen
    obtain ⟨a, q, rfl, h2⟩ := xp_r_v he
    split at h2
    · rename_i k n hc
      obtain ⟨h3, h2⟩ := xw_c h2
      cases h2
      have h3 : k + 1 ≤ 5 := xw_ble h3
      have hws := xh_ws_at (ad := ad) (cy := cy) hc
      match k, h3, hws with
      | 0, _, hws => exact va_alen hx hb hK hat.1 a 0 hws rfl rfl hd (kk _ _ _ ⟨hat, hS, hl⟩)
      | 1, _, hws => exact va_alen hx hb hK hat.1 a 1 hws rfl rfl hd (kk _ _ _ ⟨hat, hS, hl⟩)
      | 2, _, hws => exact va_alen hx hb hK hat.1 a 2 hws rfl rfl hd (kk _ _ _ ⟨hat, hS, hl⟩)
      | 3, _, hws => exact va_alen hx hb hK hat.1 a 3 hws rfl rfl hd (kk _ _ _ ⟨hat, hS, hl⟩)
      | 4, _, hws => exact va_alen hx hb hK hat.1 a 4 hws rfl rfl hd (kk _ _ _ ⟨hat, hS, hl⟩)
      | k + 5, h3, _ => omega
    · cases h2
  | newarray t =>
    cases xw_beq hlen
    obtain ⟨z, q, rfl, h2⟩ := xp_i_v he
    obtain ⟨h3, h2⟩ := xw_c h2
    cases h2
    obtain ⟨h3, h4⟩ := xw_bb h3
    obtain ⟨h4, h5⟩ := xw_bb h4
    have h4 : xa_k t ≤ 5 := xw_ble h4
    have h5 := xw_ble h5
    have h3 : ¬ z < 0 := by simpa using h3
    have harr : (Cond.arrayClass (newarray.typeOf t)).before args s = true := by
      cases t with
      | int => exact hts _ xk_aI
      | byte => exact hts _ xk_aB
      | boolean => exact hts _ xk_aZ
      | long => exact hts _ xk_aJ
      | char => exact absurd h4 (by decide)
      | float => exact absurd h4 (by decide)
      | double => exact absurd h4 (by decide)
      | short => exact absurd h4 (by decide)
    exact xa_newa hx hb harr h4 hK hat hS hA h3 h5 hcap.1 hcap.2 hd (fun H1 a1 a2 => kk _ _ _ ⟨a1, a2, hl⟩)
  | anewarray idx =>
    cases xw_beq hlen
    obtain ⟨z, q, rfl, h2⟩ := xp_i_v he
    obtain ⟨h3, h2⟩ := xw_c h2
    cases h2
    obtain ⟨h3, h5⟩ := xw_bb h3
    have h5 := xw_ble h5
    have h3 : ¬ z < 0 := by simpa using h3
    exact xa_newq hx hb hown (hts _ (xw_in hw)) (va_AO.use hO.2.1) hK hat hS hA h3 h5 hcap.1 hcap.2 hd (fun H1 a1 a2 => kk _ _ _ ⟨a1, a2, hl⟩)
  | new idx =>
    cases xw_beq hlen
    cases he
    have hw : (match vwCl[ra]? with
      | some (C, _, _) => xw_b rK ri (.classLink own idx C)
      | none => false) = true := hw
    cases hv : vwCl[ra]? with
    | none => rw [hv] at hw; cases hw
    | some t =>
      obtain ⟨C, T, N⟩ := t
      rw [hv] at hw
      obtain ⟨k1, k2, k3, k4, k5, k6, k7⟩ := xk_ok ra C T N hv
      dsimp only at hcap
      rw [← k1] at hcap
      refine xa_new hx hb hts k2 k3 k5 hown (hts _ (xw_in hw)) (hts _ k6) (hts _ k7) hK hat hS hA hv k1 hcap.1 hcap.2 hd (fun H1 a1 a2 => ?_)
      have K := kk _ _ _ ⟨a1, a2, hl⟩
      dsimp only at K
      rw [← k1] at K
      exact K
  | _ => cases he
end XS
end
section
section XX
/-- a method: its owner's name, its name, its code, how many locals, what it returns, its kind (0 virtual, 1 static, 2 a constructor), how many arguments, its owner's row in vwCl -/
abbrev xm_M : Type := String × MethodName × ByteArray × Nat × Option FieldType × Nat × Nat × Nat
def xm_cat (vs : List Value) : Nat := (vs.map fun v => v.category).sum
/-- what is not of ours is read: the table of the factorials (1), the law's script (0) -/
def xe_o (scr : Option (Nat × (Nat → Int32))) (r : xr_R) (pc : Nat) (lv : List (Nat × Value)) (st : List Value) (h : xh_H) (c s : Nat) : Option xs_S := match r.1 with
  | .getstatic _ => some (pc + 3, lv, .float 1 :: st, h, c, s)
  | .laload => (match st with
    | .int i :: .float u :: q => cond (Nat.beq u.toNat 1 && xe_in i 13) (some (pc + 1, lv, .long (xo_f i.toNatClampNeg) :: q, h, c, s)) none
    | _ => none)
  | .iaload => (match st with
    | .int i :: .float u :: q => (match scr with
      | some (L, xs) => cond (Nat.beq u.toNat 0 && xe_in i L) (some (pc + 1, lv, .int (xs i.toNatClampNeg) :: q, h, c, s)) none
      | none => none)
    | _ => none)
  | .arraylength => (match st with
    | .float u :: q => (match scr with
      | some (L, _) => cond (Nat.beq u.toNat 0) (some (pc + 1, lv, .int (Int32.ofNat L) :: q, h, c, s)) none
      | none => none)
    | _ => none)
  | _ => none
/-- what a method returns -/
def xe_rv (i : Instr) (ret : Option FieldType) (st : List Value) : Option (Option Value) := match i with
  | .ireturn => (match st with
    | [.int x] => (match ret with
      | some .int => some (some (.int x))
      | some .boolean => cond (decide (x = 0) || decide (x = 1)) (some (some (.int x))) none
      | _ => none)
    | _ => none)
  | .lreturn => (match st with
    | [.long x] => (match ret with
      | some .long => some (some (.long x))
      | _ => none)
    | _ => none)
  | .areturn => (match st with
    | [.ref a] => (match ret with
      | some (.object _) => some (some (.ref a))
      | _ => none)
    | _ => none)
  | .return_ => (match st with
    | [] => (match ret with
      | none => some none
      | _ => none)
    | _ => none)
  | _ => none
def xe_isr (i : Instr) : Bool := match i with
  | .ireturn => true
  | .lreturn => true
  | .areturn => true
  | .return_ => true
  | _ => false
/-- a call's arguments, and what lies under them: behind each other the method, its arguments (the receiver first), the rest of the stack -/
def xe_cl (M : Nat → Option xm_M) (r : xr_R) (st : List Value) (h : xh_H) : Option (xm_M × List Value × List Value) := match M r.2.2.1 with
  | none => none
  | some mi => (match r.1 with
    | .invokestatic _ => cond (Nat.beq r.2.2.2.1 0 && (Nat.beq mi.2.2.2.2.2.1 1 && (Nat.beq (st.take mi.2.2.2.2.2.2.1).length mi.2.2.2.2.2.2.1 && (Nat.ble (xm_cat (st.drop mi.2.2.2.2.2.2.1)) 8 && Nat.ble (xm_cat (st.take mi.2.2.2.2.2.2.1).reverse) mi.2.2.2.1)))) (some (mi, (st.take mi.2.2.2.2.2.2.1).reverse, st.drop mi.2.2.2.2.2.2.1)) none
    | .invokevirtual _ => (match st.drop mi.2.2.2.2.2.2.1 with
      | .ref b :: q => (match h.1[b]? with
        | some (0, ci) => cond (Nat.beq ci mi.2.2.2.2.2.2.2 && (Nat.beq mi.2.2.2.2.2.1 0 && (Nat.beq (st.take mi.2.2.2.2.2.2.1).length mi.2.2.2.2.2.2.1 && (Nat.ble (xm_cat q) 8 && Nat.ble (xm_cat (.ref b :: (st.take mi.2.2.2.2.2.2.1).reverse)) mi.2.2.2.1)))) (some (mi, .ref b :: (st.take mi.2.2.2.2.2.2.1).reverse, q)) none
        | _ => none)
      | _ => none)
    | .invokespecial _ => (match st.drop mi.2.2.2.2.2.2.1 with
      | .ref b :: q => cond (Nat.beq r.2.2.2.1 0 && (Nat.beq mi.2.2.2.2.2.1 2 && (Nat.beq (st.take mi.2.2.2.2.2.2.1).length mi.2.2.2.2.2.2.1 && (Nat.ble (xm_cat q) 8 && Nat.ble (xm_cat (.ref b :: (st.take mi.2.2.2.2.2.2.1).reverse)) mi.2.2.2.1)))) (some (mi, .ref b :: (st.take mi.2.2.2.2.2.2.1).reverse, q)) none
      | _ => none)
    | _ => none)
/-- a String constant's number -/
def js_ok (u : UInt32) : Bool := Nat.ble 2 u.toNat && Nat.ble u.toNat 6
def xe_oi (r : xr_R) (pc d : Nat) (lv : List (Nat × Value)) (st : List Value) (h : xh_H) (c s : Nat) : Option xs_S := match r.1 with
  | .invokevirtual _ => (match r.2.2.2.1 with
    | 3 => (match d with
      | _ + 2 => (match st with
        | .float u :: q => cond (js_ok u && Nat.ble (xm_cat q) 8) (some (pc + 3, lv, .int (js_len (u.toNat - 2)) :: q, h, c, s)) none
        | _ => none)
      | _ => none)
    | 4 => (match d with
      | _ + 4 => (match st with
        | .int k :: .float u :: q => cond (js_ok u && (xe_in k (js_lens.getD (u.toNat - 2) 0) && Nat.ble (xm_cat q) 8)) (some (pc + 3, lv, .int (js_ch (u.toNat - 2) k.toNatClampNeg) :: q, h, c, s)) none
        | _ => none)
      | _ => none)
    | _ => none)
  | .invokespecial _ => (match r.2.2.2.1 with
    | 1 => (match d with
      | 0 => none
      | _ + 1 => (match st with
        | .ref _ :: q => cond (Nat.ble (xm_cat q) 8) (some (pc + 3, lv, q, h, c, s)) none
        | _ => none))
    | _ => none)
  | .invokestatic _ => (match r.2.2.2.1 with
    | 2 => (match d with
      | 0 => none
      | _ + 1 => (match st with
        | .int y :: .int x :: q => cond (Nat.ble (xm_cat q) 8) (some (pc + 3, lv, .int (if y < x then y else x) :: q, h, c, s)) none
        | _ => none))
    | _ => none)
  | _ => none
/-- one step that is no return and no call of ours -/
def xe_2 (scr : Option (Nat × (Nat → Int32))) (nL : Nat) (r : xr_R) (d pc : Nat) (lv : List (Nat × Value)) (st : List Value) (h : xh_H) (c s : Nat) : Option xs_S := match xe_1 nL r pc lv st h c s with
  | some o => some o
  | none => (match xe_o scr r pc lv st h c s with
    | some o => some o
    | none => xe_oi r pc d lv st h c s)
/-- A METHOD, RUN: what it returns, the heap behind it, the cells and slots made -/
def xe_x (M : Nat → Option xm_M) (Cd : Nat → Nat → Option xr_R) (scr : Option (Nat × (Nat → Int32))) : Nat → Nat → Nat → xm_M → xs_S → Option (Option Value × xh_H × Nat × Nat)
  | 0, _, _, _, _ => none
  | f + 1, d, mid, mi, (pc, lv, st, h, c, s) => (match Cd mid pc with
    | none => none
    | some r => cond (xe_isr r.1) ((xe_rv r.1 mi.2.2.2.2.1 st).map (fun v => (v, h, c, s)))
      (match xe_2 scr mi.2.2.2.1 r d pc lv st h c s with
      | some o => xe_x M Cd scr f d mid mi o
      | none => (match d with
        | 0 => none
        | d' + 1 => (match xe_cl M r st h with
          | none => none
          | some (mj, As, q) => (match xe_x M Cd none f d' r.2.2.1 mj (0, lv_args 0 As, [], h, 0, 0) with
            | none => none
            | some (v, h', mc, ms) => xe_x M Cd scr f (d' + 1) mid mi (pc + 3, lv, v.toList ++ q, h', c + mc, s + ms))))))
end XX
end
section
section XM
set_option maxHeartbeats 4000000 in
set_option maxRecDepth 100000 in
theorem xe_1_mono {nL : Nat} {r : xr_R} {pc : Nat} {lv : List (Nat × Value)} {st : List Value} {h : xh_H} {c s : Nat} {pc' : Nat} {lv' : List (Nat × Value)} {st' : List Value} {h' : xh_H} {c' s' : Nat} (he : xe_1 nL r pc lv st h c s = some (pc', lv', st', h', c', s')) : c ≤ c' ∧ s ≤ s' := by
  obtain ⟨i, len, ra, rb, rK, ri⟩ := r
  cases i with
  | iconst _ => cases he; exact ⟨Nat.le_refl _, Nat.le_refl _⟩
  | bipush _ => cases he; exact ⟨Nat.le_refl _, Nat.le_refl _⟩
  | sipush _ => cases he; exact ⟨Nat.le_refl _, Nat.le_refl _⟩
  | lconst _ => cases he; exact ⟨Nat.le_refl _, Nat.le_refl _⟩
  | ldc_w _ => cases he; exact ⟨Nat.le_refl _, Nat.le_refl _⟩
  | ldc2_w _ => cases he; exact ⟨Nat.le_refl _, Nat.le_refl _⟩
  | goto _ => cases he; exact ⟨Nat.le_refl _, Nat.le_refl _⟩
  | ldc _ => cases rb <;> (cases he; exact ⟨Nat.le_refl _, Nat.le_refl _⟩)
  | iload_n _ => obtain ⟨v, _, _, h3⟩ := xs_ld he; cases h3; exact ⟨Nat.le_refl _, Nat.le_refl _⟩
  | iload _ => obtain ⟨v, _, _, h3⟩ := xs_ld he; cases h3; exact ⟨Nat.le_refl _, Nat.le_refl _⟩
  | lload_n _ => obtain ⟨v, _, _, h3⟩ := xs_ld he; cases h3; exact ⟨Nat.le_refl _, Nat.le_refl _⟩
  | lload _ => obtain ⟨v, _, _, h3⟩ := xs_ld he; cases h3; exact ⟨Nat.le_refl _, Nat.le_refl _⟩
  | aload_n _ => obtain ⟨v, _, _, h3⟩ := xs_ld he; cases h3; exact ⟨Nat.le_refl _, Nat.le_refl _⟩
  | aload _ => obtain ⟨v, _, _, h3⟩ := xs_ld he; cases h3; exact ⟨Nat.le_refl _, Nat.le_refl _⟩
  | istore_n _ => obtain ⟨v, q, _, _, _, h3⟩ := xs_st1 he; cases h3; exact ⟨Nat.le_refl _, Nat.le_refl _⟩
  | istore _ => obtain ⟨v, q, _, _, _, h3⟩ := xs_st1 he; cases h3; exact ⟨Nat.le_refl _, Nat.le_refl _⟩
  | astore_n _ => obtain ⟨v, q, _, _, _, h3⟩ := xs_st1 he; cases h3; exact ⟨Nat.le_refl _, Nat.le_refl _⟩
  | astore _ => obtain ⟨v, q, _, _, _, h3⟩ := xs_st1 he; cases h3; exact ⟨Nat.le_refl _, Nat.le_refl _⟩
  | lstore_n _ => obtain ⟨v, q, _, _, _, h3⟩ := xs_st2 he; cases h3; exact ⟨Nat.le_refl _, Nat.le_refl _⟩
  | lstore _ => obtain ⟨v, q, _, _, _, h3⟩ := xs_st2 he; cases h3; exact ⟨Nat.le_refl _, Nat.le_refl _⟩
  | iadd => obtain ⟨y, x, q, _, h2⟩ := xp_ii_v he; cases h2; exact ⟨Nat.le_refl _, Nat.le_refl _⟩
  | isub => obtain ⟨y, x, q, _, h2⟩ := xp_ii_v he; cases h2; exact ⟨Nat.le_refl _, Nat.le_refl _⟩
  | imul => obtain ⟨y, x, q, _, h2⟩ := xp_ii_v he; cases h2; exact ⟨Nat.le_refl _, Nat.le_refl _⟩
  | iand => obtain ⟨y, x, q, _, h2⟩ := xp_ii_v he; cases h2; exact ⟨Nat.le_refl _, Nat.le_refl _⟩
  | ior => obtain ⟨y, x, q, _, h2⟩ := xp_ii_v he; cases h2; exact ⟨Nat.le_refl _, Nat.le_refl _⟩
  | ixor => obtain ⟨y, x, q, _, h2⟩ := xp_ii_v he; cases h2; exact ⟨Nat.le_refl _, Nat.le_refl _⟩
  | ishl => obtain ⟨y, x, q, _, h2⟩ := xp_ii_v he; cases h2; exact ⟨Nat.le_refl _, Nat.le_refl _⟩
  | ishr => obtain ⟨y, x, q, _, h2⟩ := xp_ii_v he; cases h2; exact ⟨Nat.le_refl _, Nat.le_refl _⟩
  | iushr => obtain ⟨y, x, q, _, h2⟩ := xp_ii_v he; cases h2; exact ⟨Nat.le_refl _, Nat.le_refl _⟩
  | if_icmp k _ =>
    obtain ⟨y, x, q, _, h2⟩ := xp_ii_v he
    cases hb : xe_c k x y with
    | true => rw [hb] at h2; cases h2; exact ⟨Nat.le_refl _, Nat.le_refl _⟩
    | false => rw [hb] at h2; cases h2; exact ⟨Nat.le_refl _, Nat.le_refl _⟩
  | irem => obtain ⟨y, x, q, _, h2⟩ := xp_ii_v he; obtain ⟨_, h3⟩ := xw_c0 h2; cases h3; exact ⟨Nat.le_refl _, Nat.le_refl _⟩
  | ladd => obtain ⟨y, x, q, _, h2⟩ := xp_ll_v he; cases h2; exact ⟨Nat.le_refl _, Nat.le_refl _⟩
  | lsub => obtain ⟨y, x, q, _, h2⟩ := xp_ll_v he; cases h2; exact ⟨Nat.le_refl _, Nat.le_refl _⟩
  | lmul => obtain ⟨y, x, q, _, h2⟩ := xp_ll_v he; cases h2; exact ⟨Nat.le_refl _, Nat.le_refl _⟩
  | land => obtain ⟨y, x, q, _, h2⟩ := xp_ll_v he; cases h2; exact ⟨Nat.le_refl _, Nat.le_refl _⟩
  | lor => obtain ⟨y, x, q, _, h2⟩ := xp_ll_v he; cases h2; exact ⟨Nat.le_refl _, Nat.le_refl _⟩
  | lcmp => obtain ⟨y, x, q, _, h2⟩ := xp_ll_v he; cases h2; exact ⟨Nat.le_refl _, Nat.le_refl _⟩
  | ldiv => obtain ⟨y, x, q, _, h2⟩ := xp_ll_v he; obtain ⟨_, h3⟩ := xw_c0 h2; cases h3; exact ⟨Nat.le_refl _, Nat.le_refl _⟩
  | lrem => obtain ⟨y, x, q, _, h2⟩ := xp_ll_v he; obtain ⟨_, h3⟩ := xw_c0 h2; cases h3; exact ⟨Nat.le_refl _, Nat.le_refl _⟩
  | lushr => obtain ⟨y, x, q, _, h2⟩ := xp_il_v he; cases h2; exact ⟨Nat.le_refl _, Nat.le_refl _⟩
  | lshl => obtain ⟨y, x, q, _, h2⟩ := xp_il_v he; cases h2; exact ⟨Nat.le_refl _, Nat.le_refl _⟩
  | i2l => obtain ⟨x, q, _, h2⟩ := xp_i_v he; cases h2; exact ⟨Nat.le_refl _, Nat.le_refl _⟩
  | i2b => obtain ⟨x, q, _, h2⟩ := xp_i_v he; cases h2; exact ⟨Nat.le_refl _, Nat.le_refl _⟩
  | i2c => obtain ⟨x, q, _, h2⟩ := xp_i_v he; cases h2; exact ⟨Nat.le_refl _, Nat.le_refl _⟩
  | ifCond k _ =>
    obtain ⟨x, q, _, h2⟩ := xp_i_v he
    cases hb : xe_c k x 0 with
    | true => rw [hb] at h2; cases h2; exact ⟨Nat.le_refl _, Nat.le_refl _⟩
    | false => rw [hb] at h2; cases h2; exact ⟨Nat.le_refl _, Nat.le_refl _⟩
  | l2i => obtain ⟨x, q, _, h2⟩ := xp_l_v he; cases h2; exact ⟨Nat.le_refl _, Nat.le_refl _⟩
  | pop2 => obtain ⟨x, q, _, h2⟩ := xp_l_v he; cases h2; exact ⟨Nat.le_refl _, Nat.le_refl _⟩
  | newarray _ => obtain ⟨x, q, _, h2⟩ := xp_i_v he; obtain ⟨_, h3⟩ := xw_c h2; cases h3; exact ⟨Nat.le_add_right _ _, Nat.le_add_right _ _⟩
  | anewarray _ => obtain ⟨x, q, _, h2⟩ := xp_i_v he; obtain ⟨_, h3⟩ := xw_c h2; cases h3; exact ⟨Nat.le_add_right _ _, Nat.le_add_right _ _⟩
  | new _ => cases he; exact ⟨Nat.le_add_right _ _, Nat.le_add_right _ _⟩
  | dup =>
    match st, he with
    | a :: q, he => obtain ⟨_, h3⟩ := xw_c he; cases h3; exact ⟨Nat.le_refl _, Nat.le_refl _⟩
  | pop =>
    match st, he with
    | a :: q, he => obtain ⟨_, h3⟩ := xw_c he; cases h3; exact ⟨Nat.le_refl _, Nat.le_refl _⟩
  | dup2 =>
    match st, he with
    | a :: b :: q, he => obtain ⟨_, h3⟩ := xw_c he; cases h3; exact ⟨Nat.le_refl _, Nat.le_refl _⟩
  | dup_x2 =>
    match st, he with
    | a :: b :: d :: q, he => obtain ⟨_, h3⟩ := xw_c he; cases h3; exact ⟨Nat.le_refl _, Nat.le_refl _⟩
  | iinc k n =>
    have he : (match xl_get lv k with
      | some (.int x) => cond (Nat.ble (k + 1) nL) (some (pc + 3, xl_1 lv k (.int (x + Int32.ofInt n)), st, h, c, s)) none
      | _ => none) = some (pc', lv', st', h', c', s') := he
    split at he
    · obtain ⟨_, h3⟩ := xw_c he; cases h3; exact ⟨Nat.le_refl _, Nat.le_refl _⟩
    · cases he
  | ifnull _ =>
    match st, he with
    | .ref _ :: q, he => cases he; exact ⟨Nat.le_refl _, Nat.le_refl _⟩
    | .null :: q, he => cases he; exact ⟨Nat.le_refl _, Nat.le_refl _⟩
  | if_acmp k _ =>
    cases k with
    | eq => cases he
    | ne =>
      match st, he with
      | .ref y :: .ref x :: q, he =>
        obtain ⟨_, h3⟩ := xw_c he
        cases hb : Nat.beq x y with
        | true => rw [hb] at h3; cases h3; exact ⟨Nat.le_refl _, Nat.le_refl _⟩
        | false => rw [hb] at h3; cases h3; exact ⟨Nat.le_refl _, Nat.le_refl _⟩
  | getfield _ =>
    obtain ⟨a, q, _, h2⟩ := xp_r_v he
    try dsimp only at h2
    split at h2
    · obtain ⟨_, h3⟩ := xw_c h2; cases h3; exact ⟨Nat.le_refl _, Nat.le_refl _⟩
    · cases h2
  | putfield _ =>
    obtain ⟨v, a, q, _, h2⟩ := xp_vr_v he
    try dsimp only at h2
    split at h2
    · obtain ⟨_, h3⟩ := xw_c h2
      obtain ⟨_, _, h4⟩ := Option.map_eq_some_iff.mp h3
      cases h4; exact ⟨Nat.le_refl _, Nat.le_refl _⟩
    · cases h2
  | iaload =>
    obtain ⟨i, a, q, _, h2⟩ := xp_ir_v he
    try dsimp only at h2
    split at h2
    · obtain ⟨_, h3⟩ := xw_c h2; cases h3; exact ⟨Nat.le_refl _, Nat.le_refl _⟩
    · cases h2
  | baload =>
    obtain ⟨i, a, q, _, h2⟩ := xp_ir_v he
    try dsimp only at h2
    split at h2
    · obtain ⟨_, h3⟩ := xw_c h2; cases h3; exact ⟨Nat.le_refl _, Nat.le_refl _⟩
    · obtain ⟨_, h3⟩ := xw_c h2; cases h3; exact ⟨Nat.le_refl _, Nat.le_refl _⟩
    · cases h2
  | laload =>
    obtain ⟨i, a, q, _, h2⟩ := xp_ir_v he
    try dsimp only at h2
    split at h2
    · obtain ⟨_, h3⟩ := xw_c h2; cases h3; exact ⟨Nat.le_refl _, Nat.le_refl _⟩
    · cases h2
  | aaload =>
    obtain ⟨i, a, q, _, h2⟩ := xp_ir_v he
    try dsimp only at h2
    split at h2
    · obtain ⟨_, h3⟩ := xw_c h2; cases h3; exact ⟨Nat.le_refl _, Nat.le_refl _⟩
    · cases h2
  | iastore =>
    obtain ⟨x, i, a, q, _, h2⟩ := xp_iir_v he
    try dsimp only at h2
    split at h2
    · obtain ⟨_, h3⟩ := xw_c h2; cases h3; exact ⟨Nat.le_refl _, Nat.le_refl _⟩
    · cases h2
  | bastore =>
    obtain ⟨x, i, a, q, _, h2⟩ := xp_iir_v he
    try dsimp only at h2
    split at h2
    · obtain ⟨_, h3⟩ := xw_c h2; cases h3; exact ⟨Nat.le_refl _, Nat.le_refl _⟩
    · obtain ⟨_, h3⟩ := xw_c h2; cases h3; exact ⟨Nat.le_refl _, Nat.le_refl _⟩
    · cases h2
  | lastore =>
    obtain ⟨x, i, a, q, _, h2⟩ := xp_lir_v he
    try dsimp only at h2
    split at h2
    · obtain ⟨_, h3⟩ := xw_c h2; cases h3; exact ⟨Nat.le_refl _, Nat.le_refl _⟩
    · cases h2
  | aastore =>
    obtain ⟨x, i, a, q, _, h2⟩ := xp_rir_v he
    try dsimp only at h2
    split at h2
    · split at h2
      · obtain ⟨_, h3⟩ := xw_c h2; cases h3; exact ⟨Nat.le_refl _, Nat.le_refl _⟩
      · cases h2
    · cases h2
  | arraylength =>
    obtain ⟨a, q, _, h2⟩ := xp_r_v he
    try dsimp only at h2
    split at h2
    · obtain ⟨_, h3⟩ := xw_c h2; cases h3; exact ⟨Nat.le_refl _, Nat.le_refl _⟩
    · cases h2
  | tableswitch dflt lo hi offs =>
    obtain ⟨x, q, _, h2⟩ := xp_i_v he
    cases hb : (decide (x.toInt < lo) || decide (hi < x.toInt)) with
    | true =>
      rw [hb] at h2
      obtain ⟨_, h3⟩ := xw_c h2
      cases h3; exact ⟨Nat.le_refl _, Nat.le_refl _⟩
    | false =>
      rw [hb] at h2
      cases ho : offs[(x.toInt - lo).toNat]? with
      | none => rw [ho] at h2; cases h2
      | some off =>
        rw [ho] at h2
        obtain ⟨_, h3⟩ := xw_c h2
        cases h3; exact ⟨Nat.le_refl _, Nat.le_refl _⟩
  | _ => cases he
end XM
end
section
section XRUN
theorem xe_2_mono {scr : Option (Nat × (Nat → Int32))} {nL : Nat} {r : xr_R} {d pc : Nat} {lv : List (Nat × Value)} {st : List Value} {h : xh_H} {c s : Nat} {pc' : Nat} {lv' : List (Nat × Value)} {st' : List Value} {h' : xh_H} {c' s' : Nat} (he : xe_2 scr nL r d pc lv st h c s = some (pc', lv', st', h', c', s')) : c ≤ c' ∧ s ≤ s' := by
  unfold xe_2 at he
  split at he
  · rename_i o h1
    cases he
    exact xe_1_mono h1
  · split at he
    · rename_i o h1
      cases he
      unfold xe_o at h1
      repeat' split at h1
      all_goals first
        | (cases h1; done)
        | (cases h1; exact ⟨Nat.le_refl _, Nat.le_refl _⟩)
        | (obtain ⟨_, h3⟩ := xw_c h1; cases h3; exact ⟨Nat.le_refl _, Nat.le_refl _⟩)
    · unfold xe_oi at he
      repeat' split at he
      all_goals first
        | (cases he; done)
        | (cases he; exact ⟨Nat.le_refl _, Nat.le_refl _⟩)
        | (obtain ⟨_, h3⟩ := xw_c he; cases h3; exact ⟨Nat.le_refl _, Nat.le_refl _⟩)
theorem xe_x_mono {M : Nat → Option xm_M} {Cd : Nat → Nat → Option xr_R} : ∀ (f : Nat) (scr : Option (Nat × (Nat → Int32))) (d mid : Nat) (mi : xm_M) (pc : Nat) (lv : List (Nat × Value)) (st : List Value) (h : xh_H) (c s : Nat) (v : Option Value) (h' : xh_H) (c' s' : Nat), xe_x M Cd scr f d mid mi (pc, lv, st, h, c, s) = some (v, h', c', s') → c ≤ c' ∧ s ≤ s' := by
  intro f
  induction f with
  | zero => intro scr d mid mi pc lv st h c s v h' c' s' he; cases he
  | succ f ih =>
    intro scr d mid mi pc lv st h c s v h' c' s' he
    unfold xe_x at he
    split at he
    · cases he
    · rename_i r hr
      cases hi : xe_isr r.1 with
      | true =>
        rw [hi] at he
        obtain ⟨v1, _, h2⟩ := Option.map_eq_some_iff.mp (show Option.map _ _ = _ from he)
        cases h2
        exact ⟨Nat.le_refl _, Nat.le_refl _⟩
      | false =>
        rw [hi] at he
        simp only [cond_false] at he
        split at he
        · rename_i o ho
          obtain ⟨pc1, lv1, st1, h1, c1, s1⟩ := o
          have a := xe_2_mono ho
          have b := ih _ _ _ _ _ _ _ _ _ _ _ _ _ _ he
          exact ⟨Nat.le_trans a.1 b.1, Nat.le_trans a.2 b.2⟩
        · split at he
          · cases he
          · split at he
            · cases he
            · split at he
              · cases he
              · have b := ih _ _ _ _ _ _ _ _ _ _ _ _ _ _ he
                exact ⟨Nat.le_trans (Nat.le_add_right _ _) b.1, Nat.le_trans (Nat.le_add_right _ _) b.2⟩
end XRUN
end
section
section XOK
def xm_ini (mi : xm_M) : Bool := Nat.beq mi.2.2.2.2.2.1 2
def xm_ok (mi : xm_M) : Prop :=
  Cond.code mi.2.1 mi.2.2.1 mi.2.2.2.1 mi.2.2.2.2.1 ∈ xG ∧ Cond.initialized mi.2.1.cls ∈ xG ∧ mi.1 = mi.2.1.cls ∧ _root_.Jvm.plainName mi.2.1.cls = true ∧ (mi.2.1.cls ≠ "java/lang/invoke/MethodHandle" ∧ mi.2.1.cls ≠ "java/lang/invoke/VarHandle" ∧ (parseMethodDescriptor mi.2.1.desc).map (fun d => d.parameters.length) = some mi.2.2.2.2.2.2.1) ∧ mi.2.2.2.1 ≤ 20 ∧
  (mi.2.2.2.2.2.1 = 0 → Cond.instanceMethod mi.2.1 ∈ xG ∧ Cond.selects mi.2.1.cls mi.2.1 mi.2.1 ∈ xG ∧ ∃ T N, vwCl[mi.2.2.2.2.2.2.2]? = some (mi.2.1.cls, T, N)) ∧ (mi.2.2.2.2.2.1 = 1 → Cond.static mi.2.1 ∈ xG) ∧ (mi.2.2.2.2.2.1 = 2 → Cond.instanceMethod mi.2.1 ∈ xG ∧ mi.2.1.name = "<init>" ∧ mi.2.2.2.2.1 = none)
def xr_c (M : Nat → Option xm_M) (own : String) (r : xr_R) : Bool := match r.1 with
  | .invokevirtual idx => (match r.2.2.2.1 with
    | 3 => xw_b r.2.2.2.2.1 r.2.2.2.2.2 (.methodLink own idx yJ0_length_8abf5) && (M r.2.2.1).isNone
    | 4 => xw_b r.2.2.2.2.1 r.2.2.2.2.2 (.methodLink own idx yJ0_charAt_5068e) && (M r.2.2.1).isNone
    | _ => (match M r.2.2.1 with
      | some mj => xw_b r.2.2.2.2.1 r.2.2.2.2.2 (.methodLink own idx mj.2.1)
      | none => false))
  | .invokestatic idx => (match r.2.2.2.1 with
    | 2 => xw_b r.2.2.2.2.1 r.2.2.2.2.2 (.methodLink own idx Lib.Math.min.name)
    | _ => (match M r.2.2.1 with
      | some mj => xw_b r.2.2.2.2.1 r.2.2.2.2.2 (.methodLink own idx mj.2.1)
      | none => false))
  | .invokespecial idx => (match r.2.2.2.1 with
    | 1 => xw_b r.2.2.2.2.1 r.2.2.2.2.2 (.methodLink own idx objectInit)
    | _ => (match M r.2.2.1 with
      | some mj => xw_b r.2.2.2.2.1 r.2.2.2.2.2 (.methodLink own idx mj.2.1)
      | none => false))
  | .getstatic idx => xw_b r.2.2.2.2.1 r.2.2.2.2.2 (.fieldLink own idx RX2 "FACTORIALS" "[J")
  | _ => true
/-- the program's tables hold -/
def xP_ok (M : Nat → Option xm_M) (Cd : Nat → Nat → Option xr_R) : Prop :=
  (∀ (mid : Nat) (mi : xm_M), M mid = some mi → (mi.2.2.2.2.2.1 ≠ 3 → xm_ok mi) ∧ ∀ (pc : Nat) (r : xr_R), Cd mid pc = some r → xr_b mi.1 (xm_ini mi) mi.2.2.1 pc r = true ∧ xr_c M mi.1 r = true) ∧ (Cond.instanceMethod objectInit ∈ xG ∧ Cond.code objectInit ⟨#[0xb1]⟩ 1 none ∈ xG) ∧ Cond.static Lib.Math.min.name ∈ xG ∧ Cond.initialized "java/lang/Math" ∈ xG ∧ Cond.code Lib.Math.min.name Lib.Math.min.code 2 (some .int) ∈ xG
theorem xG_good {w : Cond} (h : w ∈ xG) : w ∈ xG ∧ ((w.onTables && w.keeps) = true ∨ ∃ ty, w = .arrayClass ty) := ⟨h, good_of_word (List.mem_filter.mp h).2⟩
theorem xG_in {mi : xm_M} (h : xm_ok mi) : GoodIn xG (Cond.code mi.2.1 mi.2.2.1 mi.2.2.2.1 mi.2.2.2.2.1 :: xG) := fun w hw => by
  rcases List.mem_cons.mp hw with rfl | hw
  · exact xG_good h.1
  · exact xG_good hw
def xm_rm (d mc ms : Nat) : Room := { frames := d, cells := mc, slots := ms, locals := 40 * d }
/-- a call's start and end, in our words -/
def xq_P (D : va_G) (cy : Nat → ClassId) (ad sp : Nat → Nat) (h : xh_H) (sz : Nat) (U : State) : Prop :=
  U.heap.size = sz ∧ xh_at D cy ad (fun _ => True) h U.heap ∧ va_K D vwCl (xh_ts cy) U ∧ xo_ok sp (va_A (xh_ws ad cy h) sz) U U.heap
def xq_Q (D : va_G) (cy : Nat → ClassId) (ad sp : Nat → Nat) (v : Option Value) (h1 : xh_H) (A1 : Nat → Prop) : Array Value → State → Outcome → State → Prop := fun _ st oc t => oc = .returned (v.map (xh_v ad sp)) ∧ xh_at D cy ad A1 h1 t.heap ∧ va_F A1 st t
def xq_M (l : Launch) (D : va_G) (cy : Nat → ClassId) (ad sp : Nat → Nat) (mi : xm_M) (As : List Value) (h : xh_H) (sz d : Nat) (v : Option Value) (h1 : xh_H) (mc ms : Nat) : Prop :=
  Met l mi.2.1 (Cond.code mi.2.1 mi.2.2.1 mi.2.2.2.1 mi.2.2.2.2.1 :: xG) (xm_rm d mc ms) (va_Pc (As.map (xh_v ad sp)) (xq_P D cy ad sp h sz)) (xq_Q D cy ad sp v h1 (va_A (xh_ws ad cy h) sz)) mc ms (va_A (xh_ws ad cy h) sz)
theorem xh_at.weaken {D : va_G} {cy : Nat → ClassId} {ad : Nat → Nat} {A B : Nat → Prop} {h : xh_H} {H : Heap} (hat : xh_at D cy ad A h H) (hAB : ∀ q, A q → B q) : xh_at D cy ad B h H := ⟨hat.1, hat.2.1.weaken (fun _ q _ hq => hAB q.1 hq), hat.2.2⟩
variable {p : Program} {l : Launch} {e : Env} {R : Room} {s : State} {m : MethodId} {args : Array Value} {below : List Frame} {meth : Method} {c : Code} {H : Heap} {locs : List Loc} {cells slots : Nat} {Q : State → Prop}
variable {cc : ByteArray} {pc : Nat} {ls : Array Slot} {rest st0 : List Value} {D : va_G} {A A1 : Nat → Prop} {ad sp : Nat → Nat} {cy : Nat → ClassId} {nL mc ms : Nat} {own : String} {ini : Bool} {a : Array Value}
theorem xa_call {v : Option Value} {h1 : xh_H} (hr : va_Run p l e R s m args below meth c H locs cells slots mc ms (F0 m pc ls st0) rest (xq_Q D cy ad sp v h1 A1 a) A1) (hS : va_S A s.heap H locs) (hF : ∀ q, A1 q → A q)
    (kk : ∀ (H1 : Heap) (locs1 : List Loc), xh_at D cy ad A h1 H1 → va_S A s.heap H1 locs1 → W p l e R s m args below meth c H1 locs1 (cells + mc) (slots + ms) Q (F0 m (pc + 3) ls ((v.map (xh_v ad sp)).toList ++ rest))) : W p l e R s m args below meth c H locs cells slots Q (F0 m pc ls st0) := by
  intro T hT X
  obtain ⟨w, st₀, t, T', L, h0, X', hL, e1, e2, ⟨hv, hat, hz, hk⟩, st⟩ := hr T hT X
  cases hv
  rw [h0] at hz hk
  obtain ⟨t2, a1, b1⟩ := kk T'.heap (locs ++ L) (by rw [e1]; exact hat.weaken hF)
    ⟨Nat.le_trans hS.1 (by rw [e1]; exact hz), fun q h1 h2 => by rw [e1, hk q (Nat.lt_of_lt_of_le h1 hS.1) (fun z => h2 (hF q z))]; exact hS.2.1 q h1 h2, fun q hq => by
      rcases List.mem_append.mp hq with h | h
      · exact hS.2.2 q h
      · exact hF _ (hL q h)⟩ T' rfl X'
  exact ⟨t2, st t2 a1, b1⟩
theorem xq_free {h : xh_H} {H0 : Heap} (hat : xh_at D cy ad A h H) (hS : va_S A H0 H locs) (hA : ∀ q, H0.size ≤ q → A q) : ∀ q, va_A (xh_ws ad cy h) H.size q → A q := by
  intro q hq
  rcases hq with ⟨k, x, hk⟩ | hq
  · exact hat.2.1.2 k (q, x) hk
  · exact hA q (Nat.le_trans hS.1 hq)
theorem xq_blind (vs : List Value) (h : xh_H) (sz : Nat) : FrameBlind (va_Pc vs (xq_P D cy ad sp h sz)) := by
  intro a U g mk hp
  obtain ⟨h0, h1, h2, h3, h4⟩ := hp
  exact ⟨h0, h1, h2, va_K.moved (u := U) (U := U.calling g mk a) (Vm.Alike.refl U.vm) h3, xo_ok.same (s := U) (U := U.calling g mk a) rfl h4⟩
theorem xq_pre {h : xh_H} {vs : List Value} (X : xc_X p s m args meth c cc nL own ini D cy A sp) (hat : xh_at D cy ad A h H) (hS : va_S A s.heap H locs) : ∀ U : State, U.heap = H → s.WarmedH U.vm → va_Pc vs (xq_P D cy ad sp h H.size) vs.toArray U := by
  obtain ⟨hx, hb, hml, hown, hts, hK, hA, hO, hini⟩ := X
  intro U hU hW
  refine ⟨rfl, by rw [hU], by rw [hU]; exact hat.weaken (fun _ _ => trivial), va_K.moved hW.alike hK, ?_⟩
  rw [hU]
  exact ((hO.kept hS.2.1).narrow (xq_free hat hS hA)).warm hW
theorem lv_args_m (vs : List Value) : ∀ i : Nat, lv_args i (vs.map (xh_v ad sp)) = xl_m ad sp (lv_args i vs) := by
  induction vs with
  | nil => intro i; rfl
  | cons v t ih =>
    intro i
    show (i, xh_v ad sp v) :: lv_args _ (t.map (xh_v ad sp)) = (i, xh_v ad sp v) :: xl_m ad sp (lv_args _ t)
    rw [ih, xh_v_cat]
theorem lg_sl_len (vs : List Value) : (lg_sl vs).length = xm_cat vs := by
  induction vs with
  | nil => rfl
  | cons v t ih =>
    have : lg_sl (v :: t) = (if v.category = 2 then [Slot.val v, .second] else [.val v]) ++ lg_sl t := by simp [lg_sl]
    rw [this, List.length_append, ih]
    have : xm_cat (v :: t) = v.category + xm_cat t := by simp [xm_cat]
    rw [this]
    rcases lv_cat v with h | h <;> simp [h]
theorem xm_cat_m (vs : List Value) : xm_cat (vs.map (xh_v ad sp)) = xm_cat vs := by
  simp [xm_cat, List.map_map, Function.comp_def, xh_v_cat]
/-- a run, on the machine: up to its return -/
def xS_ok (M : Nat → Option xm_M) (Cd : Nat → Nat → Option xr_R) (f : Nat) : Prop := ∀ (p : Program) (l : Launch) (e : Env) (R : Room) (s : State) (m : MethodId) (args : Array Value) (below : List Frame) (meth : Method) (c : Code) (H : Heap) (locs : List Loc) (Q : State → Prop) (ls : Array Slot) (D : va_G) (A : Nat → Prop) (ad sp : Nat → Nat) (cy : Nat → ClassId)
    (scr : Option (Nat × (Nat → Int32))) (d mid : Nat) (mi : xm_M) (pc : Nat) (lv : List (Nat × Value)) (st : List Value) (h : xh_H) (cells slots : Nat) (v : Option Value) (h' : xh_H) (c' s' : Nat),
    xe_x M Cd scr f d mid mi (pc, lv, st, h, cells, slots) = some (v, h', c', s') → M mid = some mi → xc_X p s m args meth c mi.2.2.1 mi.2.2.2.1 mi.1 (xm_ini mi) D cy A sp → (d ≤ R.frames ∧ 40 * d ≤ R.locals ∧ c' ≤ R.cells ∧ s' ≤ R.slots) → (∀ L xs, scr = some (L, xs) → va_X (sp 0) L xs s s.heap ∧ sp 0 < s.heap.size ∧ ¬ A (sp 0)) → xc_S D cy ad sp A s mi.2.2.2.1 h lv H locs ls →
    (∀ (H1 : Heap) (locs1 : List Loc) (ls1 : Array Slot) (lv1 : List (Nat × Value)) (pc1 : Nat) (ri : Instr) (st1 : List Value), xc_S D cy ad sp A s mi.2.2.2.1 h' lv1 H1 locs1 ls1 → decode mi.2.2.1 pc1 = .ok (ri, 1) → xe_rv ri mi.2.2.2.2.1 st1 = some v → W p l e R s m args below meth c H1 locs1 c' s' Q (F0 m pc1 ls1 (st1.map (xh_v ad sp)))) →
    W p l e R s m args below meth c H locs cells slots Q (F0 m pc ls (st.map (xh_v ad sp)))
/-- a method's end -/
theorem xe_rv_ok {ri : Instr} {ret : Option FieldType} {st1 : List Value} {v : Option Value} {h' : xh_H} {lv1 : List (Nat × Value)} (hrv : xe_rv ri ret st1 = some v) (hx : p.tables.exec = Jvm.exec) (hb : c.code = cc) (hr : meth.sig.returnType = ret) (hlocks : meth.locks = false) (S : xc_S D cy ad sp A s nL h' lv1 H locs ls) (hd : decode cc pc = .ok (ri, 1)) :
    W p l e R s m args below meth c H locs cells slots (MQ below (xq_Q D cy ad sp v h' A) args s cells slots A) (F0 m pc ls (st1.map (xh_v ad sp))) := by
  obtain ⟨hat, hS, hl⟩ := S
  unfold xe_rv at hrv
  split at hrv
  · split at hrv
    · rename_i x
      split at hrv
      · cases hrv
        exact W.iret hx hb hr (fun t ht hW => ⟨rfl, by rw [ht]; exact hat, hS.F ht⟩) hS.2.2 hd hlocks
      · obtain ⟨h1, h2⟩ := xw_c hrv
        cases h2
        have h1 : x = 0 ∨ x = 1 := by simpa using h1
        refine W.zret (ty := .boolean) hx hb hr ?_ (fun t ht hW => ⟨rfl, by rw [ht]; exact hat, hS.F ht⟩) hS.2.2 hd hlocks
        rcases h1 with rfl | rfl <;> rfl
      · cases hrv
    · cases hrv
  · split at hrv
    · split at hrv
      · cases hrv
        exact W.lret hx hb hr (fun t ht hW => ⟨rfl, by rw [ht]; exact hat, hS.F ht⟩) hS.2.2 hd hlocks
      · cases hrv
    · cases hrv
  · split at hrv
    · split at hrv
      · cases hrv
        exact W.aret hx hb hr (Or.inl ⟨_, rfl⟩) (Or.inr ⟨_, rfl⟩) (fun t ht hW => ⟨rfl, by rw [ht]; exact hat, hS.F ht⟩) hS.2.2 hd hlocks
      · cases hrv
    · cases hrv
  · split at hrv
    · split at hrv
      · cases hrv
        exact W.vret hx hb hr (fun t ht hW => ⟨rfl, by rw [ht]; exact hat, hS.F ht⟩) hS.2.2 hd hlocks
      · cases hrv
    · cases hrv
  · cases hrv
/-- a run gives a contract -/
theorem xe_met {M : Nat → Option xm_M} {Cd : Nat → Nat → Option xr_R} {f : Nat} (hP : xP_ok M Cd) (hf : xS_ok M Cd f) {d mid : Nat} {mi : xm_M} {As : List Value} {h : xh_H} {v : Option Value} {h' : xh_H} {mc ms : Nat} (he : xe_x M Cd none f d mid mi (0, lv_args 0 As, [], h, 0, 0) = some (v, h', mc, ms)) (hm : M mid = some mi) (hok : xm_ok mi) (hfit : xm_cat As ≤ mi.2.2.2.1) (l : Launch) (sz : Nat) : xq_M l D cy ad sp mi As h sz d v h' mc ms := by
  refine Met.ofW (cc := mi.2.2.1) (maxL := mi.2.2.2.1) (ret := mi.2.2.2.2.1) hok.2.2.2.1 rfl ?_
  intro p e s m args below meth c s₁ B hml hv
  obtain ⟨rfl, hsz, hat, hK, hO⟩ := hv
  have hts := atoms_spec (ws := Cond.code mi.2.1 mi.2.2.1 mi.2.2.2.1 mi.2.2.2.2.1 :: xG) B.pre
  have hown : s.vm.findClass mi.1 = some m.cls := by rw [hok.2.2.1]; exact findClass_of_methodNamed B.named
  have hin : xm_ini mi = true → meth.name = "<init>" := fun z => by rw [(name_of_methodNamed B.named B.method).1]; exact (hok.2.2.2.2.2.2.2.2 (xw_beq z)).2.1
  have hl := lv_entry (As.map (xh_v ad sp)) (n := mi.2.2.2.1) (by rw [lg_sl_len, xm_cat_m]; exact hfit)
  rw [lv_args_m] at hl
  rw [lg_entry_eq]
  subst hsz
  have hD := hat.2.1.self (sz := s.heap.size)
  refine hf p l e _ s m _ below meth c s.heap [] _ _ D (va_A (xh_ws ad cy h) s.heap.size) ad sp cy none d mid mi 0 (lv_args 0 As) [] h 0 0 v h' mc ms he hm ⟨B.exec, B.bytes, hml, hown, fun w hw => hts w (List.mem_cons_of_mem _ hw), hK, fun q hq => Or.inr hq, hO, hin⟩ ⟨Nat.le_refl _, Nat.le_refl _, Nat.le_refl _, Nat.le_refl _⟩ (fun L xs z => by cases z) ⟨⟨hat.1, hD, hat.2.2⟩, va_S.rf, hl⟩ ?_
  intro H1 locs1 ls1 lv1 pc1 ri st1 S1 hd1 hrv
  exact xe_rv_ok hrv B.exec B.bytes B.returns B.notSynchronized S1 hd1
end XOK
end
section
section XSTR
theorem jw_in2 {K i : Nat} {w : Cond} (h : (xtb K)[i]? = some w) (hg : goodWord w = true) : w ∈ xG := List.mem_filter.mpr ⟨xtb_in (List.mem_of_getElem? h), hg⟩
theorem jw_iS : Cond.initialized RJ0 ∈ xG := xw_in (K := 1) (i := 13) (by decide +kernel)
theorem jw_iL : Cond.initialized RJ1 ∈ xG := xw_in (K := 1) (i := 14) (by decide +kernel)
theorem jw_iP : Cond.initialized RJ3 ∈ xG := xw_in (K := 1) (i := 15) (by decide +kernel)
theorem jw_c_len : Cond.code yJ0_length_8abf5 cJ0_length_8abf5 1 (some .int) ∈ xG := jw_in2 (K := 2) (i := 206) rfl rfl
theorem jw_n_len : Cond.instanceMethod yJ0_length_8abf5 ∈ xG := xw_in (K := 2) (i := 204) (by decide +kernel)
theorem jw_s_len : Cond.selects RJ0 yJ0_length_8abf5 yJ0_length_8abf5 ∈ xG := xw_in (K := 2) (i := 205) (by decide +kernel)
theorem jw_c_cod : Cond.code yJ0_coder_7d493 cJ0_coder_7d493 1 (some .byte) ∈ xG := jw_in2 (K := 2) (i := 210) rfl rfl
theorem jw_n_cod : Cond.instanceMethod yJ0_coder_7d493 ∈ xG := xw_in (K := 2) (i := 208) (by decide +kernel)
theorem jw_s_cod : Cond.selects RJ0 yJ0_coder_7d493 yJ0_coder_7d493 ∈ xG := xw_in (K := 2) (i := 209) (by decide +kernel)
theorem jw_c_lat : Cond.code yJ0_isLatin1_aae02 cJ0_isLatin1_aae02 1 (some .boolean) ∈ xG := jw_in2 (K := 2) (i := 220) rfl rfl
theorem jw_n_lat : Cond.instanceMethod yJ0_isLatin1_aae02 ∈ xG := xw_in (K := 2) (i := 218) (by decide +kernel)
theorem jw_s_lat : Cond.selects RJ0 yJ0_isLatin1_aae02 yJ0_isLatin1_aae02 ∈ xG := xw_in (K := 2) (i := 219) (by decide +kernel)
theorem jw_c_cha : Cond.code yJ0_charAt_5068e cJ0_charAt_5068e 2 (some .char) ∈ xG := jw_in2 (K := 2) (i := 216) rfl rfl
theorem jw_n_cha : Cond.instanceMethod yJ0_charAt_5068e ∈ xG := xw_in (K := 2) (i := 214) (by decide +kernel)
theorem jw_s_cha : Cond.selects RJ0 yJ0_charAt_5068e yJ0_charAt_5068e ∈ xG := xw_in (K := 2) (i := 215) (by decide +kernel)
theorem jw_c_ch1 : Cond.code yJ1_charAt_3b067 cJ1_charAt_3b067 2 (some .char) ∈ xG := jw_in2 (K := 2) (i := 223) rfl rfl
theorem jw_t_ch1 : Cond.static yJ1_charAt_3b067 ∈ xG := xw_in (K := 2) (i := 222) (by decide +kernel)
theorem jw_c_ck0 : Cond.code yJ0_checkIndex_df160 cJ0_checkIndex_df160 2 none ∈ xG := jw_in2 (K := 2) (i := 226) rfl rfl
theorem jw_t_ck0 : Cond.static yJ0_checkIndex_df160 ∈ xG := xw_in (K := 2) (i := 225) (by decide +kernel)
theorem jw_c_ck3 : Cond.code yJ3_checkIndex_8e157 cJ3_checkIndex_8e157 3 (some .int) ∈ xG := jw_in2 (K := 2) (i := 231) rfl rfl
theorem jw_t_ck3 : Cond.static yJ3_checkIndex_8e157 ∈ xG := xw_in (K := 2) (i := 230) (by decide +kernel)
theorem jw_l_cod : Cond.methodLink RJ0 335 yJ0_coder_7d493 ∈ xG := xw_in (K := 2) (i := 207) (by decide +kernel)
theorem jw_l_lat : Cond.methodLink RJ0 492 yJ0_isLatin1_aae02 ∈ xG := xw_in (K := 2) (i := 217) (by decide +kernel)
theorem jw_l_ch1 : Cond.methodLink RJ0 495 yJ1_charAt_3b067 ∈ xG := xw_in (K := 2) (i := 221) (by decide +kernel)
theorem jw_l_ck0 : Cond.methodLink RJ1 9 yJ0_checkIndex_df160 ∈ xG := xw_in (K := 2) (i := 224) (by decide +kernel)
theorem jw_l_ck3 : Cond.methodLink RJ0 1059 yJ3_checkIndex_8e157 ∈ xG := xw_in (K := 2) (i := 229) (by decide +kernel)
theorem jw_f_cmp : Cond.fieldLink RJ0 38 "java/lang/String" "COMPACT_STRINGS" "Z" ∈ xG := xw_in (K := 2) (i := 211) (by decide +kernel)
theorem jw_f_val : Cond.fieldLink RJ0 9 "java/lang/String" "value" "[B" ∈ xG := xw_in (K := 7) (i := 186) (by decide +kernel)
theorem jw_f_cod : Cond.fieldLink RJ0 15 "java/lang/String" "coder" "B" ∈ xG := xw_in (K := 7) (i := 187) (by decide +kernel)
theorem jw_f_fmt : Cond.fieldLink RJ0 1053 "jdk/internal/util/Preconditions" "SIOOBE_FORMATTER" "Ljava/util/function/BiFunction;" ∈ xG := xw_in (K := 2) (i := 227) (by decide +kernel)
variable {p : Program} {l : Launch} {e : Env} {R : Room} {s : State} {m : MethodId} {args : Array Value} {below : List Frame} {meth : Method} {c : Code} {H : Heap} {locs : List Loc} {Q : State → Prop} {cells slots : Nat}
variable {cc : ByteArray} {ls : Array Slot} {D : va_G} {A : Nat → Prop} {ad sp : Nat → Nat} {cy : Nat → ClassId} {nL : Nat} {own : String} {ini : Bool}
/-- a JDK method that leaves all as it was: its contract -/
def js_M (l : Launch) (D : va_G) (cy : Nat → ClassId) (ad sp : Nat → Nat) (y : MethodName) (bytes : ByteArray) (maxL : Nat) (ret : Option FieldType) (As : List Value) (h : xh_H) (sz d : Nat) (v : Option Value) : Prop :=
  Met l y (Cond.code y bytes maxL ret :: xG) (xm_rm d 0 0) (va_Pc (As.map (xh_v ad sp)) (xq_P D cy ad sp h sz)) (xq_Q D cy ad sp v h (va_A (xh_ws ad cy h) sz)) 0 0 (va_A (xh_ws ad cy h) sz)
theorem js_met {y : MethodName} {bytes : ByteArray} {maxL : Nat} {ret : Option FieldType} {As : List Value} {h : xh_H} {sz d : Nat} {v : Option Value} (hpl : _root_.Jvm.plainName y.cls = true) (hfit : xm_cat As ≤ maxL)
    (hw : ∀ (p : Program) (e : Env) (s : State) (m : MethodId) (args : Array Value) (below : List Frame) (meth : Method) (c : Code) (ls : Array Slot) (A : Nat → Prop), xc_X p s m args meth c bytes maxL y.cls false D cy A sp → meth.sig.returnType = ret → meth.locks = false → xc_S D cy ad sp A s maxL h (lv_args 0 As) s.heap [] ls → W p l e (xm_rm d 0 0) s m args below meth c s.heap [] 0 0 (MQ below (xq_Q D cy ad sp v h A) args s 0 0 A) (F0 m 0 ls ([].map (xh_v ad sp)))) : js_M l D cy ad sp y bytes maxL ret As h sz d v := by
  refine Met.ofW (cc := bytes) (maxL := maxL) (ret := ret) hpl rfl ?_
  intro p e s m args below meth c s₁ B hml hv
  obtain ⟨rfl, hsz, hat, hK, hO⟩ := hv
  have hts := atoms_spec (ws := Cond.code y bytes maxL ret :: xG) B.pre
  have hown : s.vm.findClass y.cls = some m.cls := findClass_of_methodNamed B.named
  have hl := lv_entry (As.map (xh_v ad sp)) (n := maxL) (by rw [lg_sl_len, xm_cat_m]; exact hfit)
  rw [lv_args_m] at hl
  rw [lg_entry_eq]
  subst hsz
  have hD := hat.2.1.self (sz := s.heap.size)
  exact hw p e s m _ below meth c _ (va_A (xh_ws ad cy h) s.heap.size) ⟨B.exec, B.bytes, hml, hown, fun w hw => hts w (List.mem_cons_of_mem _ hw), hK, fun q hq => Or.inr hq, hO, fun z => by cases z⟩ B.returns B.notSynchronized ⟨⟨hat.1, hD, hat.2.2⟩, va_S.rf, hl⟩
theorem js_good {y : MethodName} {bytes : ByteArray} {maxL : Nat} {ret : Option FieldType} (hc : Cond.code y bytes maxL ret ∈ xG) : GoodIn xG (Cond.code y bytes maxL ret :: xG) := fun w hw => by
  rcases List.mem_cons.mp hw with rfl | hw
  · exact xG_good hc
  · exact xG_good hw
/-- a call of a String constant's method -/
theorem js_callV {y : MethodName} {bytes : ByteArray} {maxL : Nat} {ret : Option FieldType} {Bs q : List Value} {u : UInt32} {i d idx n pc : Nat} {v : Option Value} {h : xh_H} {lv : List (Nat × Value)} (X : xc_X p s m args meth c cc nL own ini D cy A sp) (S : xc_S D cy ad sp A s nL h lv H locs ls) (hi : i < 5) (hu : u.toNat = i + 2)
    (hM : js_M l D cy ad sp y bytes maxL ret (.float u :: Bs) h H.size d v) (hy : y.cls = RJ0) (hc : Cond.code y bytes maxL ret ∈ xG) (hn : Cond.instanceMethod y ∈ xG) (hse : Cond.selects RJ0 y y ∈ xG) (hlk : Cond.methodLink own idx y ∈ xG) (hmh : y.cls ≠ "java/lang/invoke/MethodHandle" ∧ y.cls ≠ "java/lang/invoke/VarHandle" ∧ (parseMethodDescriptor y.desc).map (fun d => d.parameters.length) = some n)
    (hlen : Bs.length = n) (hR : d + 1 ≤ R.frames ∧ 8 + (maxL + 11) + 40 * d ≤ R.locals) (hcap : cells ≤ R.cells ∧ slots ≤ R.slots) (hq : xm_cat q ≤ 8) (hd : decode cc pc = .ok (.invokevirtual idx, 3))
    (kk : ∀ (H1 : Heap) (locs1 : List Loc), xc_S D cy ad sp A s nL h lv H1 locs1 ls → W p l e R s m args below meth c H1 locs1 cells slots Q (F0 m (pc + 3) ls ((v.toList ++ q).map (xh_v ad sp)))) :
    W p l e R s m args below meth c H locs cells slots Q (F0 m pc ls ((Bs.reverse ++ .float u :: q).map (xh_v ad sp))) := by
  have X0 := X
  obtain ⟨hx, hb, hml, hown, hts, hK, hA, hO, hini⟩ := X
  obtain ⟨hat, hS, hl⟩ := S
  have hfree := xq_free hat hS hA
  have hrecv : ∃ cell : Cell, H[sp u.toNat]? = some cell ∧ cell.vm.isStatics = false ∧ s.vm.findClass RJ0 = some cell.cls := by
    rw [hu]
    exact vk_recv (adK := fun i => sp (i + 2)) hO.2.2.2.2.1 hi hS
  have hst : (Bs.reverse ++ .float u :: q).map (xh_v ad sp) = (Bs.map (xh_v ad sp)).reverse ++ .ref (sp u.toNat) :: q.map (xh_v ad sp) := by
    rw [List.map_append, List.map_reverse]
    rfl
  refine xa_call (v := v) (h1 := h) (va_runV (C := RJ0) (b := sp u.toNat) (As := Bs.map (xh_v ad sp)) ⟨hx, hb, hml, hown, hts⟩ hM ⟨callB_of n hts (js_good hc) rfl rfl rfl (by rw [hy]; exact hts _ jw_iS) (hts _ hlk) hmh hR, hts _ hn, hts _ hse⟩ ⟨xq_blind _ _ _, hrecv, xq_pre X0 hat hS⟩ rfl (by rw [List.length_map]; exact hlen) hl.1 hst (lv_room ?_) hd hcap) hS hfree ?_
  · show xm_cat (q.map (xh_v ad sp)) ≤ 8
    rw [xm_cat_m]
    exact hq
  · intro H1 locs1 a1 a2
    have K := kk H1 locs1 ⟨a1, a2, hl⟩
    rw [List.map_append] at K
    cases v with
    | none => exact K
    | some w => exact K
/-- a call of a static method of the JDK -/
theorem js_callS {y : MethodName} {bytes : ByteArray} {maxL : Nat} {ret : Option FieldType} {As q : List Value} {d idx n pc : Nat} {v : Option Value} {h : xh_H} {lv : List (Nat × Value)} (X : xc_X p s m args meth c cc nL own ini D cy A sp) (S : xc_S D cy ad sp A s nL h lv H locs ls)
    (hM : js_M l D cy ad sp y bytes maxL ret As h H.size d v) (hin : Cond.initialized y.cls ∈ xG) (hc : Cond.code y bytes maxL ret ∈ xG) (hn : Cond.static y ∈ xG) (hlk : Cond.methodLink own idx y ∈ xG) (hmh : y.cls ≠ "java/lang/invoke/MethodHandle" ∧ y.cls ≠ "java/lang/invoke/VarHandle" ∧ (parseMethodDescriptor y.desc).map (fun d => d.parameters.length) = some n)
    (hlen : As.length = n) (hR : d + 1 ≤ R.frames ∧ 8 + (maxL + 11) + 40 * d ≤ R.locals) (hcap : cells ≤ R.cells ∧ slots ≤ R.slots) (hq : xm_cat q ≤ 8) (hd : decode cc pc = .ok (.invokestatic idx, 3))
    (kk : ∀ (H1 : Heap) (locs1 : List Loc), xc_S D cy ad sp A s nL h lv H1 locs1 ls → W p l e R s m args below meth c H1 locs1 cells slots Q (F0 m (pc + 3) ls ((v.toList ++ q).map (xh_v ad sp)))) :
    W p l e R s m args below meth c H locs cells slots Q (F0 m pc ls ((As.reverse ++ q).map (xh_v ad sp))) := by
  have X0 := X
  obtain ⟨hx, hb, hml, hown, hts, hK, hA, hO, hini⟩ := X
  obtain ⟨hat, hS, hl⟩ := S
  have hfree := xq_free hat hS hA
  have hst : (As.reverse ++ q).map (xh_v ad sp) = (As.map (xh_v ad sp)).reverse ++ q.map (xh_v ad sp) := by
    rw [List.map_append, List.map_reverse]
  refine xa_call (v := v) (h1 := h) (va_runS (As := As.map (xh_v ad sp)) ⟨hx, hb, hml, hown, hts⟩ hM ⟨callB_of n hts (js_good hc) rfl rfl rfl (hts _ hin) (hts _ hlk) hmh hR, hts _ hn⟩ ⟨xq_blind _ _ _, xq_pre X0 hat hS⟩ rfl (by rw [List.length_map]; exact hlen) hl.1 hst (lv_room ?_) hd hcap) hS hfree ?_
  · show xm_cat (q.map (xh_v ad sp)) ≤ 8
    rw [xm_cat_m]
    exact hq
  · intro H1 locs1 a1 a2
    have K := kk H1 locs1 ⟨a1, a2, hl⟩
    rw [List.map_append] at K
    cases v with
    | none => exact K
    | some w => exact K
theorem js_lt {k : Int32} {i : Nat} (hi : i < 5) (h0 : ¬ k < 0) (hk : k.toNatClampNeg + 1 ≤ js_lens.getD i 0) : k < js_len i := by
  obtain ⟨j, hj, e⟩ := nI_of h0
  subst e
  rw [nI_clamp hj] at hk
  have hb : ∀ i, i < 5 → js_lens.getD i 0 ≤ 5 := by decide
  have hb := hb i hi
  exact nI_lt (by omega) (by omega)
theorem js_len0 : ∀ i, i < 5 → js_len i >>> ((0 : Int32) &&& 31) = js_len i := by decide
theorem js_coder {u : UInt32} {i : Nat} (hi : i < 5) (hu : u.toNat = i + 2) (h : xh_H) (sz d : Nat) : js_M l D cy ad sp yJ0_coder_7d493 cJ0_coder_7d493 1 (some .byte) [.float u] h sz d (some (.int 0)) := by
  refine js_met (by decide) (Nat.le_refl 1) ?_
  intro p e s m args below meth c ls A X hr hlk S
  have X0 := X
  obtain ⟨hx, hb, hml, hown, hts, hK, hA, hO, hini⟩ := X
  obtain ⟨hat, hS, hl⟩ := S
  refine va_gets hx hb hO.2.2.2.2.2.1 hS hown (hts _ jw_f_cmp) (fun _ h9 => h9) (show decode cJ0_coder_7d493 0 = .ok (.getstatic 38, 3) by decide +kernel) ?_
  refine xe_1_ok (st := [.int 1]) (r := (.ifCond .eq 10, 3, 13, 0, 0, 0)) X0 (by decide +kernel) rfl ⟨Nat.le_refl _, Nat.le_refl _⟩ ⟨hat, hS, hl⟩ ?_
  intro H1 locs1 ls1 S1
  refine xe_1_ok (st := []) (r := (.aload_n 0, 1, 0, 0, 0, 0)) X0 (by decide +kernel) rfl ⟨Nat.le_refl _, Nat.le_refl _⟩ S1 ?_
  intro H2 locs2 ls2 S2
  have hof := (hO.2.2.2.2.1.1 i hi).2.1
  dsimp only at hof
  rw [← hu] at hof
  refine vk_getf hx hb hof S2.2.1 hown (hts _ jw_f_cod) (fun _ h9 => h9) (show decode cJ0_coder_7d493 7 = .ok (.getfield 15, 3) by decide +kernel) ?_
  refine xe_1_ok (st := [.int 0]) (r := (.goto 4, 3, 14, 0, 0, 0)) X0 (by decide +kernel) rfl ⟨Nat.le_refl _, Nat.le_refl _⟩ S2 ?_
  intro H3 locs3 ls3 S3
  exact W.zret (ty := .byte) hx hb hr rfl (fun t ht hW => ⟨rfl, by rw [ht]; exact S3.1, S3.2.1.F ht⟩) S3.2.1.2.2 (show decode cJ0_coder_7d493 14 = .ok (.ireturn, 1) by decide +kernel) hlk
theorem js_latin {u : UInt32} {i : Nat} (hi : i < 5) (hu : u.toNat = i + 2) (h : xh_H) (sz d : Nat) : js_M l D cy ad sp yJ0_isLatin1_aae02 cJ0_isLatin1_aae02 1 (some .boolean) [.float u] h sz d (some (.int 1)) := by
  refine js_met (by decide) (Nat.le_refl 1) ?_
  intro p e s m args below meth c ls A X hr hlk S
  have X0 := X
  obtain ⟨hx, hb, hml, hown, hts, hK, hA, hO, hini⟩ := X
  obtain ⟨hat, hS, hl⟩ := S
  refine va_gets hx hb hO.2.2.2.2.2.1 hS hown (hts _ jw_f_cmp) (fun _ h9 => h9) (show decode cJ0_isLatin1_aae02 0 = .ok (.getstatic 38, 3) by decide +kernel) ?_
  refine xe_1_ok (st := [.int 1]) (r := (.ifCond .eq 14, 3, 17, 0, 0, 0)) X0 (by decide +kernel) rfl ⟨Nat.le_refl _, Nat.le_refl _⟩ ⟨hat, hS, hl⟩ ?_
  intro H1 locs1 ls1 S1
  refine xe_1_ok (st := []) (r := (.aload_n 0, 1, 0, 0, 0, 0)) X0 (by decide +kernel) rfl ⟨Nat.le_refl _, Nat.le_refl _⟩ S1 ?_
  intro H2 locs2 ls2 S2
  have hof := (hO.2.2.2.2.1.1 i hi).2.1
  dsimp only at hof
  rw [← hu] at hof
  refine vk_getf hx hb hof S2.2.1 hown (hts _ jw_f_cod) (fun _ h9 => h9) (show decode cJ0_isLatin1_aae02 7 = .ok (.getfield 15, 3) by decide +kernel) ?_
  refine xe_1_ok (st := [.int 0]) (r := (.ifCond .ne 7, 3, 17, 0, 0, 0)) X0 (by decide +kernel) rfl ⟨Nat.le_refl _, Nat.le_refl _⟩ S2 ?_
  intro H3 locs3 ls3 S3
  refine xe_1_ok (st := []) (r := (.iconst 1, 1, 0, 0, 0, 0)) X0 (by decide +kernel) rfl ⟨Nat.le_refl _, Nat.le_refl _⟩ S3 ?_
  intro H4 locs4 ls4 S4
  refine xe_1_ok (st := [.int 1]) (r := (.goto 4, 3, 18, 0, 0, 0)) X0 (by decide +kernel) rfl ⟨Nat.le_refl _, Nat.le_refl _⟩ S4 ?_
  intro H5 locs5 ls5 S5
  exact W.zret (ty := .boolean) hx hb hr rfl (fun t ht hW => ⟨rfl, by rw [ht]; exact S5.1, S5.2.1.F ht⟩) S5.2.1.2.2 (show decode cJ0_isLatin1_aae02 18 = .ok (.ireturn, 1) by decide +kernel) hlk
/-- String.length() -/
theorem js_length {u : UInt32} {i : Nat} (hi : i < 5) (hu : u.toNat = i + 2) (h : xh_H) (sz d : Nat) : js_M l D cy ad sp yJ0_length_8abf5 cJ0_length_8abf5 1 (some .int) [.float u] h sz (d + 1) (some (.int (js_len i))) := by
  refine js_met (by decide) (Nat.le_refl 1) ?_
  intro p e s m args below meth c ls A X hr hlk S
  have X0 := X
  obtain ⟨hx, hb, hml, hown, hts, hK, hA, hO, hini⟩ := X
  refine xe_1_ok (st := []) (r := (.aload_n 0, 1, 0, 0, 0, 0)) X0 (by decide +kernel) rfl ⟨Nat.le_refl _, Nat.le_refl _⟩ S ?_
  intro H1 locs1 ls1 S1
  have hof := (hO.2.2.2.2.1.1 i hi).2.2.1
  have hT := (hO.2.2.2.2.1.1 i hi).2.2.2
  dsimp only at hof
  rw [← hu] at hof
  refine vk_getf hx hb hof S1.2.1 hown (hts _ jw_f_val) (fun _ h9 => h9) (show decode cJ0_length_8abf5 1 = .ok (.getfield 9, 3) by decide +kernel) ?_
  refine va_tlen hx hb hT S1.2.1 (v := js_len i) rfl (show decode cJ0_length_8abf5 4 = .ok (.arraylength, 1) by decide +kernel) ?_
  refine xe_1_ok (st := [.int (js_len i)]) (r := (.aload_n 0, 1, 0, 0, 0, 0)) X0 (by decide +kernel) rfl ⟨Nat.le_refl _, Nat.le_refl _⟩ S1 ?_
  intro H2 locs2 ls2 S2
  refine js_callV (Bs := []) (q := [.int (js_len i)]) (n := 0) (d := d) X0 S2 hi hu (js_coder hi hu h H2.size d) rfl jw_c_cod jw_n_cod jw_s_cod jw_l_cod (by decide) rfl ⟨Nat.le_refl _, by show 8 + (1 + 11) + 40 * d ≤ 40 * (d + 1); omega⟩ ⟨Nat.le_refl _, Nat.le_refl _⟩ (Nat.le_of_ble_eq_true rfl) (show decode cJ0_length_8abf5 6 = .ok (.invokevirtual 335, 3) by decide +kernel) ?_
  intro H3 locs3 S3
  refine xe_1_ok (st := [.int 0, .int (js_len i)]) (r := (.ishr, 1, 0, 0, 0, 0)) X0 (by decide +kernel) rfl ⟨Nat.le_refl _, Nat.le_refl _⟩ S3 ?_
  intro H4 locs4 ls4 S4
  rw [js_len0 i hi]
  exact W.iret hx hb hr (fun t ht hW => ⟨rfl, by rw [ht]; exact S4.1, S4.2.1.F ht⟩) S4.2.1.2.2 (show decode cJ0_length_8abf5 10 = .ok (.ireturn, 1) by decide +kernel) hlk
/-- Preconditions.checkIndex, of a good index -/
theorem js_ck3 {k n : Int32} {z : Value} (hz : z = .null ∨ z = .float 12) (h0 : ¬ k < 0) (hkn : k < n) (h : xh_H) (sz d : Nat) : js_M l D cy ad sp yJ3_checkIndex_8e157 cJ3_checkIndex_8e157 3 (some .int) [.int k, .int n, z] h sz d (some (.int k)) := by
  have hcat : xm_cat [.int k, .int n, z] ≤ 3 := by rcases hz with rfl | rfl <;> exact Nat.le_of_ble_eq_true rfl
  refine js_met (by decide) hcat ?_
  intro p e s m args below meth c ls A X hr hlk S
  have X0 := X
  obtain ⟨hx, hb, hml, hown, hts, hK, hA, hO, hini⟩ := X
  have hlv : lv_args 0 [.int k, .int n, z] = [(0, .int k), (1, .int n), (2, z)] := by rcases hz with rfl | rfl <;> rfl
  rw [hlv] at S
  refine xe_1_ok (st := []) (r := (.iload_n 0, 1, 0, 0, 0, 0)) X0 (by decide +kernel) rfl ⟨Nat.le_refl _, Nat.le_refl _⟩ S ?_
  intro H1 locs1 ls1 S1
  have e1 : xe_1 3 (.ifCond .lt 8, 3, 9, 0, 0, 0) 1 [(0, .int k), (1, .int n), (2, z)] [.int k] h 0 0 = some (4, [(0, .int k), (1, .int n), (2, z)], [], h, 0, 0) := by
    have hc : xe_c .lt k 0 = false := decide_eq_false h0
    simp [xe_1, xp_i, hc]
  refine xe_1_ok (st := [.int k]) (r := (.ifCond .lt 8, 3, 9, 0, 0, 0)) X0 (by decide +kernel) e1 ⟨Nat.le_refl _, Nat.le_refl _⟩ S1 ?_
  intro H2 locs2 ls2 S2
  refine xe_1_ok (st := []) (r := (.iload_n 0, 1, 0, 0, 0, 0)) X0 (by decide +kernel) rfl ⟨Nat.le_refl _, Nat.le_refl _⟩ S2 ?_
  intro H3 locs3 ls3 S3
  refine xe_1_ok (st := [.int k]) (r := (.iload_n 1, 1, 0, 0, 0, 0)) X0 (by decide +kernel) rfl ⟨Nat.le_refl _, Nat.le_refl _⟩ S3 ?_
  intro H4 locs4 ls4 S4
  have e4 : xe_1 3 (.if_icmp .lt 10, 3, 16, 0, 0, 0) 6 [(0, .int k), (1, .int n), (2, z)] [.int n, .int k] h 0 0 = some (16, [(0, .int k), (1, .int n), (2, z)], [], h, 0, 0) := by
    have hc : xe_c .lt k n = true := decide_eq_true hkn
    simp [xe_1, xp_ii, hc]
  refine xe_1_ok (st := [.int n, .int k]) (r := (.if_icmp .lt 10, 3, 16, 0, 0, 0)) X0 (by decide +kernel) e4 ⟨Nat.le_refl _, Nat.le_refl _⟩ S4 ?_
  intro H5 locs5 ls5 S5
  refine xe_1_ok (st := []) (r := (.iload_n 0, 1, 0, 0, 0, 0)) X0 (by decide +kernel) rfl ⟨Nat.le_refl _, Nat.le_refl _⟩ S5 ?_
  intro H6 locs6 ls6 S6
  exact W.iret hx hb hr (fun t ht hW => ⟨rfl, by rw [ht]; exact S6.1, S6.2.1.F ht⟩) S6.2.1.2.2 (show decode cJ3_checkIndex_8e157 17 = .ok (.ireturn, 1) by decide +kernel) hlk
/-- String.checkIndex, of a good index -/
theorem js_ck0 {k n : Int32} (h0 : ¬ k < 0) (hkn : k < n) (h : xh_H) (sz d : Nat) : js_M l D cy ad sp yJ0_checkIndex_df160 cJ0_checkIndex_df160 2 none [.int k, .int n] h sz (d + 1) none := by
  refine js_met (by decide) (Nat.le_refl 2) ?_
  intro p e s m args below meth c ls A X hr hlk S
  have X0 := X
  obtain ⟨hx, hb, hml, hown, hts, hK, hA, hO, hini⟩ := X
  refine xe_1_ok (st := []) (r := (.iload_n 0, 1, 0, 0, 0, 0)) X0 (by decide +kernel) rfl ⟨Nat.le_refl _, Nat.le_refl _⟩ S ?_
  intro H1 locs1 ls1 S1
  refine xe_1_ok (st := [.int k]) (r := (.iload_n 1, 1, 0, 0, 0, 0)) X0 (by decide +kernel) rfl ⟨Nat.le_refl _, Nat.le_refl _⟩ S1 ?_
  intro H2 locs2 ls2 S2
  have fin : ∀ z : Value, (z = .null ∨ z = .float 12) → W p l e (xm_rm (d + 1) 0 0) s m args below meth c H2 locs2 0 0 (MQ below (xq_Q D cy ad sp none h A) args s 0 0 A) (F0 m 5 ls2 (([z, .int n, .int k] : List Value).map (xh_v ad sp))) := by
    intro z hz
    refine js_callS (As := [.int k, .int n, z]) (q := []) (n := 3) (d := d) X0 S2 (js_ck3 hz h0 hkn h H2.size d) jw_iP jw_c_ck3 jw_t_ck3 jw_l_ck3 (by decide) rfl ⟨Nat.le_refl _, by show 8 + (3 + 11) + 40 * d ≤ 40 * (d + 1); omega⟩ ⟨Nat.le_refl _, Nat.le_refl _⟩ (Nat.le_of_ble_eq_true rfl) (show decode cJ0_checkIndex_df160 5 = .ok (.invokestatic 1059, 3) by decide +kernel) ?_
    intro H3 locs3 S3
    refine xe_1_ok (st := [.int k]) (r := (.pop, 1, 0, 0, 0, 0)) X0 (by decide +kernel) rfl ⟨Nat.le_refl _, Nat.le_refl _⟩ S3 ?_
    intro H4 locs4 ls4 S4
    exact W.vret hx hb hr (fun t ht hW => ⟨rfl, by rw [ht]; exact S4.1, S4.2.1.F ht⟩) S4.2.1.2.2 (show decode cJ0_checkIndex_df160 9 = .ok (.return_, 1) by decide +kernel) hlk
  rcases hO.2.2.2.2.2.2 with hZ | hZ
  · exact va_gets hx hb hZ S2.2.1 hown (hts _ jw_f_fmt) (fun _ h9 => h9) (show decode cJ0_checkIndex_df160 2 = .ok (.getstatic 1053, 3) by decide +kernel) (fin .null (Or.inl rfl))
  · exact va_gets hx hb hZ S2.2.1 hown (hts _ jw_f_fmt) (fun _ h9 => h9) (show decode cJ0_checkIndex_df160 2 = .ok (.getstatic 1053, 3) by decide +kernel) (fin (.float 12) (Or.inr rfl))
theorem js_nar : ∀ i, i < 5 → ∀ k, k < js_lens.getD i 0 → narrow .char (.int (js_ch i k)) = .int (js_ch i k) := by decide +kernel
/-- StringLatin1.charAt -/
theorem js_ch1 {w : UInt32} {k : Int32} {i : Nat} (hi : i < 5) (hw : w.toNat = i + 7) (hk : xe_in k (js_lens.getD i 0) = true) (h : xh_H) (sz d : Nat) : js_M l D cy ad sp yJ1_charAt_3b067 cJ1_charAt_3b067 2 (some .char) [.float w, .int k] h sz (d + 2) (some (.int (js_ch i k.toNatClampNeg))) := by
  obtain ⟨g1, g2⟩ := xw_bb hk
  have h0 : ¬ k < 0 := by
    intro z
    rw [decide_eq_true z] at g1
    cases g1
  have hlt := xw_ble g2
  have hkn : k < js_len i := js_lt hi h0 hlt
  refine js_met (by decide) (Nat.le_refl 2) ?_
  intro p e s m args below meth c ls A X hr hlk S
  have X0 := X
  obtain ⟨hx, hb, hml, hown, hts, hK, hA, hO, hini⟩ := X
  have hT := (hO.2.2.2.2.1.1 i hi).2.2.2
  dsimp only at hT
  rw [← hw] at hT
  refine xe_1_ok (st := []) (r := (.iload_n 1, 1, 0, 0, 0, 0)) X0 (by decide +kernel) rfl ⟨Nat.le_refl _, Nat.le_refl _⟩ S ?_
  intro H1 locs1 ls1 S1
  refine xe_1_ok (st := [.int k]) (r := (.aload_n 0, 1, 0, 0, 0, 0)) X0 (by decide +kernel) rfl ⟨Nat.le_refl _, Nat.le_refl _⟩ S1 ?_
  intro H2 locs2 ls2 S2
  refine va_tlen hx hb hT S2.2.1 (v := js_len i) rfl (show decode cJ1_charAt_3b067 2 = .ok (.arraylength, 1) by decide +kernel) ?_
  refine js_callS (As := [.int k, .int (js_len i)]) (q := []) (n := 2) (d := d + 1) X0 S2 (js_ck0 h0 hkn h H2.size d) jw_iS jw_c_ck0 jw_t_ck0 jw_l_ck0 (by decide) rfl ⟨Nat.le_refl _, by show 8 + (2 + 11) + 40 * (d + 1) ≤ 40 * (d + 2); omega⟩ ⟨Nat.le_refl _, Nat.le_refl _⟩ (Nat.le_of_ble_eq_true rfl) (show decode cJ1_charAt_3b067 3 = .ok (.invokestatic 9, 3) by decide +kernel) ?_
  intro H3 locs3 S3
  refine xe_1_ok (st := []) (r := (.aload_n 0, 1, 0, 0, 0, 0)) X0 (by decide +kernel) rfl ⟨Nat.le_refl _, Nat.le_refl _⟩ S3 ?_
  intro H4 locs4 ls4 S4
  refine xe_1_ok (st := [.float w]) (r := (.iload_n 1, 1, 0, 0, 0, 0)) X0 (by decide +kernel) rfl ⟨Nat.le_refl _, Nat.le_refl _⟩ S4 ?_
  intro H5 locs5 ls5 S5
  refine va_tb hx hb hT S5.2.1 (xe_in_v hk) rfl (show decode cJ1_charAt_3b067 8 = .ok (.baload, 1) by decide +kernel) ?_
  refine xe_1_ok (st := [.int ((js_byts.getD i []).getD k.toNatClampNeg 0)]) (r := (.sipush 255, 3, 0, 0, 0, 0)) X0 (by decide +kernel) rfl ⟨Nat.le_refl _, Nat.le_refl _⟩ S5 ?_
  intro H6 locs6 ls6 S6
  refine xe_1_ok (st := [.int 255, .int ((js_byts.getD i []).getD k.toNatClampNeg 0)]) (r := (.iand, 1, 0, 0, 0, 0)) X0 (by decide +kernel) rfl ⟨Nat.le_refl _, Nat.le_refl _⟩ S6 ?_
  intro H7 locs7 ls7 S7
  refine lv_i2c hx hb (v := js_ch i k.toNatClampNeg) (show decode cJ1_charAt_3b067 13 = .ok (.i2c, 1) by decide +kernel) rfl ?_
  exact W.zret (ty := .char) hx hb hr (js_nar i hi _ hlt) (fun t ht hW => ⟨rfl, by rw [ht]; exact S7.1, S7.2.1.F ht⟩) S7.2.1.2.2 (show decode cJ1_charAt_3b067 14 = .ok (.ireturn, 1) by decide +kernel) hlk
/-- String.charAt -/
theorem js_charAt {u : UInt32} {k : Int32} {i : Nat} (hi : i < 5) (hu : u.toNat = i + 2) (hk : xe_in k (js_lens.getD i 0) = true) (h : xh_H) (sz d : Nat) : js_M l D cy ad sp yJ0_charAt_5068e cJ0_charAt_5068e 2 (some .char) [.float u, .int k] h sz (d + 3) (some (.int (js_ch i k.toNatClampNeg))) := by
  have hlt := xw_ble (xw_bb hk).2
  refine js_met (by decide) (Nat.le_refl 2) ?_
  intro p e s m args below meth c ls A X hr hlk S
  have X0 := X
  obtain ⟨hx, hb, hml, hown, hts, hK, hA, hO, hini⟩ := X
  refine xe_1_ok (st := []) (r := (.aload_n 0, 1, 0, 0, 0, 0)) X0 (by decide +kernel) rfl ⟨Nat.le_refl _, Nat.le_refl _⟩ S ?_
  intro H1 locs1 ls1 S1
  refine js_callV (Bs := []) (q := []) (n := 0) (d := d + 2) X0 S1 hi hu (js_latin hi hu h H1.size (d + 2)) rfl jw_c_lat jw_n_lat jw_s_lat jw_l_lat (by decide) rfl ⟨Nat.le_refl _, by show 8 + (1 + 11) + 40 * (d + 2) ≤ 40 * (d + 3); omega⟩ ⟨Nat.le_refl _, Nat.le_refl _⟩ (Nat.le_of_ble_eq_true rfl) (show decode cJ0_charAt_5068e 1 = .ok (.invokevirtual 492, 3) by decide +kernel) ?_
  intro H2 locs2 S2
  refine xe_1_ok (st := [.int 1]) (r := (.ifCond .eq 12, 3, 16, 0, 0, 0)) X0 (by decide +kernel) rfl ⟨Nat.le_refl _, Nat.le_refl _⟩ S2 ?_
  intro H3 locs3 ls3 S3
  refine xe_1_ok (st := []) (r := (.aload_n 0, 1, 0, 0, 0, 0)) X0 (by decide +kernel) rfl ⟨Nat.le_refl _, Nat.le_refl _⟩ S3 ?_
  intro H4 locs4 ls4 S4
  have hof := (hO.2.2.2.2.1.1 i hi).2.2.1
  dsimp only at hof
  rw [← hu] at hof
  refine vk_getf hx hb hof S4.2.1 hown (hts _ jw_f_val) (fun _ h9 => h9) (show decode cJ0_charAt_5068e 8 = .ok (.getfield 9, 3) by decide +kernel) ?_
  have hw : (UInt32.ofNat (i + 7)).toNat = i + 7 := js_u7 i hi
  have e7 : ([Value.ref (sp (i + 7))] : List Value) = ([Value.float (UInt32.ofNat (i + 7))] : List Value).map (xh_v ad sp) := by
    show [Value.ref (sp (i + 7))] = [Value.ref (sp (UInt32.ofNat (i + 7)).toNat)]
    rw [hw]
  show W p l e (xm_rm (d + 3) 0 0) s m args below meth c H4 locs4 0 0 _ (F0 m 11 ls4 [Value.ref (sp (i + 7))])
  rw [e7]
  refine xe_1_ok (st := [.float (UInt32.ofNat (i + 7))]) (r := (.iload_n 1, 1, 0, 0, 0, 0)) X0 (by decide +kernel) rfl ⟨Nat.le_refl _, Nat.le_refl _⟩ S4 ?_
  intro H5 locs5 ls5 S5
  refine js_callS (As := [.float (UInt32.ofNat (i + 7)), .int k]) (q := []) (n := 2) (d := d + 2) X0 S5 (js_ch1 hi hw hk h H5.size d) jw_iL jw_c_ch1 jw_t_ch1 jw_l_ch1 (by decide) rfl ⟨Nat.le_refl _, by show 8 + (2 + 11) + 40 * (d + 2) ≤ 40 * (d + 3); omega⟩ ⟨Nat.le_refl _, Nat.le_refl _⟩ (Nat.le_of_ble_eq_true rfl) (show decode cJ0_charAt_5068e 12 = .ok (.invokestatic 495, 3) by decide +kernel) ?_
  intro H6 locs6 S6
  exact W.zret (ty := .char) hx hb hr (js_nar i hi _ hlt) (fun t ht hW => ⟨rfl, by rw [ht]; exact S6.1, S6.2.1.F ht⟩) S6.2.1.2.2 (show decode cJ0_charAt_5068e 15 = .ok (.ireturn, 1) by decide +kernel) hlk
end XSTR
end
section
section XALL
variable {p : Program} {l : Launch} {e : Env} {R : Room} {s : State} {m : MethodId} {args : Array Value} {below : List Frame} {meth : Method} {c : Code} {H : Heap} {locs : List Loc} {Q : State → Prop}
variable {cc : ByteArray} {ls : Array Slot} {D : va_G} {A : Nat → Prop} {ad sp : Nat → Nat} {cy : Nat → ClassId} {nL : Nat} {own : String} {ini : Bool}
theorem xr_len1 {own : String} {ini : Bool} {cc : ByteArray} {pc : Nat} {r : xr_R} (hr : xr_b own ini cc pc r = true) (hi : xe_isr r.1 = true) : decode cc pc = .ok (r.1, 1) := by
  obtain ⟨hd, hr⟩ := xw_bb hr
  replace hd := of_decide_eq_true hd
  obtain ⟨hlen, _⟩ := xw_bb hr
  obtain ⟨i, len, ra⟩ := r
  dsimp only at hd hlen hi
  cases i <;> first | (cases hi; done) | (cases xw_beq hlen; exact hd)
theorem xe_o_ok {scr : Option (Nat × (Nat → Int32))} {M : Nat → Option xm_M} {r : xr_R} {pc : Nat} {lv : List (Nat × Value)} {st : List Value} {h : xh_H} {cells slots : Nat} {pc' : Nat} {lv' : List (Nat × Value)} {st' : List Value} {h' : xh_H} {cells' slots' : Nat}
    (X : xc_X p s m args meth c cc nL own ini D cy A sp) (hr : xr_b own ini cc pc r = true) (hrc : xr_c M own r = true) (he : xe_o scr r pc lv st h cells slots = some (pc', lv', st', h', cells', slots')) (hscr : ∀ L xs, scr = some (L, xs) → va_X (sp 0) L xs s s.heap ∧ sp 0 < s.heap.size ∧ ¬ A (sp 0)) (S : xc_S D cy ad sp A s nL h lv H locs ls)
    (kk : ∀ (H1 : Heap) (locs1 : List Loc) (ls1 : Array Slot), xc_S D cy ad sp A s nL h' lv' H1 locs1 ls1 → W p l e R s m args below meth c H1 locs1 cells' slots' Q (F0 m pc' ls1 (st'.map (xh_v ad sp)))) :
    W p l e R s m args below meth c H locs cells slots Q (F0 m pc ls (st.map (xh_v ad sp))) := by
  obtain ⟨hx, hb, hml, hown, hts, hK, hA, hO, hini⟩ := X
  obtain ⟨hat, hS, hl⟩ := S
  obtain ⟨hd, hr⟩ := xw_bb hr
  replace hd := of_decide_eq_true hd
  obtain ⟨hlen, hw⟩ := xw_bb hr
  clear hr
  obtain ⟨i, len, ra, rb, rK, ri⟩ := r
  dsimp only at hd hlen
  cases i with
  | getstatic idx =>
    cases xw_beq hlen
    cases he
    exact va_gets hx hb hO.2.2.1 hS hown (hts _ (xw_in hrc)) (fun _ h9 => h9) hd (kk _ _ _ ⟨hat, hS, hl⟩)
  | laload =>
    cases xw_beq hlen
    match st, he with
    | .int j :: .float u :: q, he =>
      obtain ⟨h1, h2⟩ := xw_c he
      obtain ⟨h1, h3⟩ := xw_bb h1
      cases h2
      rw [show List.map (xh_v ad sp) (.int j :: .float u :: q) = .int j :: .ref (sp u.toNat) :: q.map (xh_v ad sp) from rfl, xw_beq h1]
      exact va_tl hx hb hO.2.2.2.1 hS (xe_in_v h3) rfl hd (kk _ _ _ ⟨hat, hS, hl⟩)
  | iaload =>
    cases xw_beq hlen
    match st, he with
    | .int j :: .float u :: q, he =>
      match scr, he, hscr with
      | some (L, xs), he, hscr =>
        obtain ⟨h1, h2⟩ := xw_c he
        obtain ⟨h1, h3⟩ := xw_bb h1
        cases h2
        obtain ⟨k1, k2, k3⟩ := hscr L xs rfl
        rw [show List.map (xh_v ad sp) (.int j :: .float u :: q) = .int j :: .ref (sp u.toNat) :: q.map (xh_v ad sp) from rfl, xw_beq h1]
        exact va_sld hx hb k1 k2 k3 hS (xe_in_v h3) hd (kk _ _ _ ⟨hat, hS, hl⟩)
  | arraylength =>
    cases xw_beq hlen
    match st, he with
    | .float u :: q, he =>
      match scr, he, hscr with
      | some (L, xs), he, hscr =>
        obtain ⟨h1, h2⟩ := xw_c he
        cases h2
        obtain ⟨k1, k2, k3⟩ := hscr L xs rfl
        rw [show List.map (xh_v ad sp) (.float u :: q) = .ref (sp u.toNat) :: q.map (xh_v ad sp) from rfl, xw_beq h1]
        exact va_slen hx hb k1 k2 k3 hS hd (kk _ _ _ ⟨hat, hS, hl⟩)
  | _ => cases he
theorem xe_oi_ok {M : Nat → Option xm_M} {r : xr_R} {d pc : Nat} {lv : List (Nat × Value)} {st : List Value} {h : xh_H} {cells slots : Nat} {pc' : Nat} {lv' : List (Nat × Value)} {st' : List Value} {h' : xh_H} {cells' slots' : Nat} (hob : (Cond.instanceMethod objectInit ∈ xG ∧ Cond.code objectInit ⟨#[0xb1]⟩ 1 none ∈ xG) ∧ Cond.static Lib.Math.min.name ∈ xG ∧ Cond.initialized "java/lang/Math" ∈ xG ∧ Cond.code Lib.Math.min.name Lib.Math.min.code 2 (some .int) ∈ xG)
    (X : xc_X p s m args meth c cc nL own ini D cy A sp) (hr : xr_b own ini cc pc r = true) (hrc : xr_c M own r = true) (he : xe_oi r pc d lv st h cells slots = some (pc', lv', st', h', cells', slots')) (hR : d ≤ R.frames ∧ 40 * d ≤ R.locals) (hcap : cells' ≤ R.cells ∧ slots' ≤ R.slots) (S : xc_S D cy ad sp A s nL h lv H locs ls)
    (kk : ∀ (H1 : Heap) (locs1 : List Loc) (ls1 : Array Slot), xc_S D cy ad sp A s nL h' lv' H1 locs1 ls1 → W p l e R s m args below meth c H1 locs1 cells' slots' Q (F0 m pc' ls1 (st'.map (xh_v ad sp)))) :
    W p l e R s m args below meth c H locs cells slots Q (F0 m pc ls (st.map (xh_v ad sp))) := by
  obtain ⟨hx, hb, hml, hown, hts, hK, hA, hO, hini⟩ := X
  obtain ⟨hat, hS, hl⟩ := S
  obtain ⟨hd, hr⟩ := xw_bb hr
  replace hd := of_decide_eq_true hd
  obtain ⟨hlen, hw⟩ := xw_bb hr
  clear hr
  obtain ⟨i, len, ra, rb, rK, ri⟩ := r
  dsimp only at hd hlen
  cases i with
  | invokevirtual idx =>
    cases xw_beq hlen
    have X0 : xc_X p s m args meth c cc nL own ini D cy A sp := ⟨hx, hb, hml, hown, hts, hK, hA, hO, hini⟩
    match rb, d, st, he, hrc, hd, hR with
    | 3, d + 2, .float u :: q, he, hrc, hd, hR =>
      obtain ⟨h1, h2⟩ := xw_c he
      cases h2
      obtain ⟨h1, h3⟩ := xw_bb h1
      obtain ⟨g1, g2⟩ := xw_bb h1
      have g1 := xw_ble g1
      have g2 := xw_ble g2
      have h3 := xw_ble h3
      have hu : u.toNat = (u.toNat - 2) + 2 := by omega
      exact js_callV (Bs := []) (i := u.toNat - 2) (n := 0) (d := 1) X0 ⟨hat, hS, hl⟩ (by omega) hu (js_length (by omega) hu h H.size 0) rfl jw_c_len jw_n_len jw_s_len (xw_in (xw_bb hrc).1) (by decide) rfl ⟨by omega, by omega⟩ hcap h3 hd (fun H1 locs1 S1 => kk H1 locs1 ls S1)
    | 4, d + 4, .int k :: .float u :: q, he, hrc, hd, hR =>
      obtain ⟨h1, h2⟩ := xw_c he
      cases h2
      obtain ⟨h1, h3⟩ := xw_bb h1
      obtain ⟨h4, h3⟩ := xw_bb h3
      obtain ⟨g1, g2⟩ := xw_bb h1
      have g1 := xw_ble g1
      have g2 := xw_ble g2
      have h3 := xw_ble h3
      have hu : u.toNat = (u.toNat - 2) + 2 := by omega
      exact js_callV (Bs := [.int k]) (i := u.toNat - 2) (n := 1) (d := 3) X0 ⟨hat, hS, hl⟩ (by omega) hu (js_charAt (by omega) hu h4 h H.size 0) rfl jw_c_cha jw_n_cha jw_s_cha (xw_in (xw_bb hrc).1) (by decide) rfl ⟨by omega, by omega⟩ hcap h3 hd (fun H1 locs1 S1 => kk H1 locs1 ls S1)
    | 0, _, _, he, _, _, _ => cases he
    | 1, _, _, he, _, _, _ => cases he
    | 2, _, _, he, _, _, _ => cases he
    | 3, 0, _, he, _, _, _ => cases he
    | 3, 1, _, he, _, _, _ => cases he
    | 4, 0, _, he, _, _, _ => cases he
    | 4, 1, _, he, _, _, _ => cases he
    | 4, 2, _, he, _, _, _ => cases he
    | 4, 3, _, he, _, _, _ => cases he
    | n + 5, _, _, he, _, _, _ => cases he
  | invokespecial idx =>
    cases xw_beq hlen
    match rb, d, st, he, hrc, hd, hR with
    | 1, d + 1, .ref a :: q, he, hrc, hd, hR =>
      obtain ⟨h1, h2⟩ := xw_c he
      cases h2
      have h1 := xw_ble h1
      refine W.objInit hx hb hown (hts _ (xw_in hrc)) (hts _ hob.1.1) (hts _ hob.1.2) rfl (by rw [hml]; exact hl.1) rfl hd (by omega) ?_ (kk _ _ _ ⟨hat, hS, hl⟩)
      have h3 : xm_cat (st'.map (xh_v ad sp)) ≤ 8 := by rw [xm_cat_m]; exact h1
      show 2 * 0 + xm_cat (st'.map (xh_v ad sp)) + 12 ≤ R.locals
      omega
    | 0, _, _, he, _, _, _ => cases he
    | 1, 0, _, he, _, _, _ => cases he
    | n + 2, _, _, he, _, _, _ => cases he
  | invokestatic idx =>
    cases xw_beq hlen
    match rb, d, st, he, hrc, hd, hR with
    | 2, d + 1, .int y :: .int x :: q, he, hrc, hd, hR =>
      obtain ⟨h1, h2⟩ := xw_c he
      cases h2
      have h1 := xw_ble h1
      have h3 : xm_cat (q.map (xh_v ad sp)) ≤ 8 := by rw [xm_cat_m]; exact h1
      refine va_mmin hx hb (by rw [hml]; exact hl.1.symm) hown (hts _ (xw_in hrc)) (hts _ hob.2.1) (hts _ hob.2.2.1) (hts _ hob.2.2.2) (by omega) ?_ hcap.1 hcap.2 hd (kk _ _ _ ⟨hat, hS, hl⟩)
      show xm_cat (q.map (xh_v ad sp)) + 13 ≤ R.locals
      omega
    | 0, _, _, he, _, _, _ => cases he
    | 1, _, _, he, _, _, _ => cases he
    | 2, 0, _, he, _, _, _ => cases he
    | n + 3, _, _, he, _, _, _ => cases he
  | _ => cases he
theorem xe_2_ok {scr : Option (Nat × (Nat → Int32))} {M : Nat → Option xm_M} {r : xr_R} {d pc : Nat} {lv : List (Nat × Value)} {st : List Value} {h : xh_H} {cells slots : Nat} {pc' : Nat} {lv' : List (Nat × Value)} {st' : List Value} {h' : xh_H} {cells' slots' : Nat} (hob : (Cond.instanceMethod objectInit ∈ xG ∧ Cond.code objectInit ⟨#[0xb1]⟩ 1 none ∈ xG) ∧ Cond.static Lib.Math.min.name ∈ xG ∧ Cond.initialized "java/lang/Math" ∈ xG ∧ Cond.code Lib.Math.min.name Lib.Math.min.code 2 (some .int) ∈ xG)
    (X : xc_X p s m args meth c cc nL own ini D cy A sp) (hr : xr_b own ini cc pc r = true) (hrc : xr_c M own r = true) (he : xe_2 scr nL r d pc lv st h cells slots = some (pc', lv', st', h', cells', slots')) (hR : d ≤ R.frames ∧ 40 * d ≤ R.locals) (hcap : cells' ≤ R.cells ∧ slots' ≤ R.slots) (hscr : ∀ L xs, scr = some (L, xs) → va_X (sp 0) L xs s s.heap ∧ sp 0 < s.heap.size ∧ ¬ A (sp 0)) (S : xc_S D cy ad sp A s nL h lv H locs ls)
    (kk : ∀ (H1 : Heap) (locs1 : List Loc) (ls1 : Array Slot), xc_S D cy ad sp A s nL h' lv' H1 locs1 ls1 → W p l e R s m args below meth c H1 locs1 cells' slots' Q (F0 m pc' ls1 (st'.map (xh_v ad sp)))) :
    W p l e R s m args below meth c H locs cells slots Q (F0 m pc ls (st.map (xh_v ad sp))) := by
  unfold xe_2 at he
  split at he
  · rename_i o h1
    cases he
    exact xe_1_ok X hr h1 hcap S kk
  · split at he
    · rename_i o h1
      cases he
      exact xe_o_ok X hr hrc h1 hscr S kk
    · exact xe_oi_ok hob X hr hrc he hR hcap S kk
theorem xr_len3 {own : String} {ini : Bool} {cc : ByteArray} {pc : Nat} {r : xr_R} (hr : xr_b own ini cc pc r = true) (hl : xr_len r.1 = 3) (ht : ∀ a b d e, r.1 ≠ .tableswitch a b d e) : decode cc pc = .ok (r.1, 3) := by
  obtain ⟨hd, hr⟩ := xw_bb hr
  replace hd := of_decide_eq_true hd
  obtain ⟨hlen, _⟩ := xw_bb hr
  obtain ⟨i, len, ra⟩ := r
  dsimp only at hd hlen hl ht
  cases i <;> first | (exact absurd rfl (ht _ _ _ _)) | (rw [← hl, ← xw_beq hlen]; exact hd)
set_option maxHeartbeats 4000000 in
set_option maxRecDepth 100000 in
/-- EVERY RUN, ON THE MACHINE -/
theorem xS_all {M : Nat → Option xm_M} {Cd : Nat → Nat → Option xr_R} (hP : xP_ok M Cd) : ∀ f : Nat, xS_ok M Cd f := by
  intro f
  induction f with
  | zero =>
    intro p l e R s m args below meth c H locs Q ls D A ad sp cy scr d mid mi pc lv st h cells slots v h' c' s' he
    cases he
  | succ f ih =>
    intro p l e R s m args below meth c H locs Q ls D A ad sp cy scr d mid mi pc lv st h cells slots v h' c' s' he hm X hR hscr S kk
    obtain ⟨_, hrows⟩ := hP.1 mid mi hm
    unfold xe_x at he
    split at he
    · cases he
    · rename_i r hr
      obtain ⟨hrb, hrc⟩ := hrows pc r hr
      cases hi : xe_isr r.1 with
      | true =>
        rw [hi] at he
        obtain ⟨v1, h1, h2⟩ := Option.map_eq_some_iff.mp (show Option.map _ _ = _ from he)
        cases h2
        exact kk _ _ _ _ _ _ _ S (xr_len1 hrb hi) h1
      | false =>
        rw [hi] at he
        simp only [cond_false] at he
        split at he
        · rename_i o ho
          obtain ⟨pc1, lv1, st1, h1, c1, s1⟩ := o
          have hmn := xe_x_mono _ _ _ _ _ _ _ _ _ _ _ _ _ _ _ he
          refine xe_2_ok hP.2 X hrb hrc ho ⟨hR.1, hR.2.1⟩ ⟨Nat.le_trans hmn.1 hR.2.2.1, Nat.le_trans hmn.2 hR.2.2.2⟩ hscr S ?_
          intro H1 locs1 ls1 S1
          exact ih p l e R s m args below meth c H1 locs1 Q ls1 D A ad sp cy scr d mid mi pc1 lv1 st1 h1 c1 s1 v h' c' s' he hm X hR hscr S1 kk
        · split at he
          · cases he
          · rename_i d' hx0
            split at he
            · cases he
            · rename_i mj As q hcl
              split at he
              · cases he
              · rename_i v1 h1 mc ms hx1
                have hmn := xe_x_mono _ _ _ _ _ _ _ _ _ _ _ _ _ _ _ he
                have X0 := X
                obtain ⟨hx, hb, hml, hown, hts, hK, hA, hO, hini⟩ := X
                obtain ⟨hat, hS, hl⟩ := S
                have hfree := xq_free hat hS hA
                have go : ∀ (H1 : Heap) (locs1 : List Loc), xh_at D cy ad A h1 H1 → va_S A s.heap H1 locs1 → W p l e R s m args below meth c H1 locs1 (cells + mc) (slots + ms) Q (F0 m (pc + 3) ls ((v1.map (xh_v ad sp)).toList ++ q.map (xh_v ad sp))) := by
                  intro H1 locs1 a1 a2
                  have K := ih p l e R s m args below meth c H1 locs1 Q ls D A ad sp cy scr (d' + 1) mid mi (pc + 3) lv (v1.toList ++ q) h1 (cells + mc) (slots + ms) v h' c' s' he hm X0 hR hscr ⟨a1, a2, hl⟩ kk
                  rw [List.map_append] at K
                  cases v1 with
                  | none => exact K
                  | some w => exact K
                have hcap : cells + mc ≤ R.cells ∧ slots + ms ≤ R.slots := ⟨Nat.le_trans hmn.1 hR.2.2.1, Nat.le_trans hmn.2 hR.2.2.2⟩
                unfold xe_cl at hcl
                split at hcl
                · cases hcl
                · rename_i mk hmk
                  have hk3 : mk.2.2.2.2.2.1 ≠ 3 := by
                    intro z
                    rw [z] at hcl
                    split at hcl
                    · obtain ⟨_, z2⟩ := xw_bb (xw_c hcl).1
                      cases (xw_bb z2).1
                    · split at hcl
                      · split at hcl
                        · obtain ⟨_, z2⟩ := xw_bb (xw_c hcl).1
                          cases (xw_bb z2).1
                        · cases hcl
                      · cases hcl
                    · split at hcl
                      · obtain ⟨_, z2⟩ := xw_bb (xw_c hcl).1
                        cases (xw_bb z2).1
                      · cases hcl
                    · cases hcl
                  have hok' := (hP.1 _ _ hmk).1 hk3
                  have hgi := xG_in hok'
                  have hok2 := hok'
                  obtain ⟨j1, j2, j3, j4, j5, j6, j7, j8, j9⟩ := hok'
                  have hRm : ∀ mc ms : Nat, (xm_rm d' mc ms).frames + 1 ≤ R.frames ∧ 8 + (mk.2.2.2.1 + 11) + (xm_rm d' mc ms).locals ≤ R.locals := by
                    intro mc ms
                    have a1 := hR.1
                    have a2 := hR.2.1
                    refine ⟨a1, ?_⟩
                    show 8 + (mk.2.2.2.1 + 11) + 40 * d' ≤ R.locals
                    omega
                  split at hcl
                  · rename_i idx hi1
                    obtain ⟨b1, b2⟩ := xw_c hcl
                    cases b2
                    obtain ⟨b0, b1⟩ := xw_bb b1
                    obtain ⟨b1, b3⟩ := xw_bb b1
                    obtain ⟨b3, b4⟩ := xw_bb b3
                    obtain ⟨b4, b5⟩ := xw_bb b4
                    replace b0 := xw_beq b0
                    replace b1 := xw_beq b1
                    replace b3 := xw_beq b3
                    replace b4 := xw_ble b4
                    replace b5 := xw_ble b5
                    have hlk : Cond.methodLink mi.1 idx mj.2.1 ∈ xG := by
                      unfold xr_c at hrc
                      rw [hi1] at hrc
                      dsimp only at hrc
                      rw [b0] at hrc
                      try dsimp only at hrc
                      rw [hmk] at hrc
                      exact xw_in hrc
                    have hd := xr_len3 hrb (by rw [hi1]; rfl) (by rw [hi1]; intro a b d e z; cases z)
                    rw [hi1] at hd
                    have hM := xe_met (D := D) (cy := cy) (ad := ad) (sp := sp) hP ih hx1 hmk hok2 b5 l H.size
                    have hst : st.map (xh_v ad sp) = ((st.take mj.2.2.2.2.2.2.1).reverse.map (xh_v ad sp)).reverse ++ (st.drop mj.2.2.2.2.2.2.1).map (xh_v ad sp) := by
                      rw [← List.map_reverse, List.reverse_reverse, ← List.map_append, List.take_append_drop]
                    refine xa_call (va_runS (As := (st.take mj.2.2.2.2.2.2.1).reverse.map (xh_v ad sp)) ⟨hx, hb, hml, hown, hts⟩ hM ⟨callB_of mj.2.2.2.2.2.2.1 hts hgi rfl rfl rfl (hts _ j2) (hts _ hlk) j5 (hRm mc ms), hts _ (j8 b1)⟩ ⟨xq_blind _ _ _, xq_pre X0 hat hS⟩ rfl (by rw [List.length_map, List.length_reverse]; exact b3) hl.1 hst (lv_room ?_) hd hcap) hS hfree go
                    show xm_cat ((st.drop mj.2.2.2.2.2.2.1).map (xh_v ad sp)) ≤ 8
                    rw [xm_cat_m]
                    exact b4
                  · rename_i idx hi1
                    split at hcl
                    · rename_i bb q2 hdrop
                      split at hcl
                      · rename_i ci hci
                        obtain ⟨b1, b2⟩ := xw_c hcl
                        cases b2
                        obtain ⟨b0, b1⟩ := xw_bb b1
                        obtain ⟨b1, b3⟩ := xw_bb b1
                        obtain ⟨b3, b4⟩ := xw_bb b3
                        obtain ⟨b4, b5⟩ := xw_bb b4
                        replace b0 := xw_beq b0
                        replace b1 := xw_beq b1
                        replace b3 := xw_beq b3
                        replace b4 := xw_ble b4
                        replace b5 := xw_ble b5
                        have hlk : Cond.methodLink mi.1 idx mj.2.1 ∈ xG := by
                          unfold xr_c at hrc
                          rw [hi1] at hrc
                          dsimp only at hrc
                          split at hrc
                          · rw [hmk] at hrc
                            cases (xw_bb hrc).2
                          · rw [hmk] at hrc
                            cases (xw_bb hrc).2
                          · rw [hmk] at hrc
                            exact xw_in hrc
                        have hd := xr_len3 hrb (by rw [hi1]; rfl) (by rw [hi1]; intro a b d e z; cases z)
                        rw [hi1] at hd
                        have hM := xe_met (D := D) (cy := cy) (ad := ad) (sp := sp) hP ih hx1 hmk hok2 b5 l H.size
                        have hst : st.map (xh_v ad sp) = ((st.take mj.2.2.2.2.2.2.1).reverse.map (xh_v ad sp)).reverse ++ .ref (ad bb) :: q.map (xh_v ad sp) := by
                          rw [← List.map_reverse, List.reverse_reverse]
                          have : st = st.take mj.2.2.2.2.2.2.1 ++ .ref bb :: q := by rw [← hdrop, List.take_append_drop]
                          conv => lhs; rw [this]
                          rw [List.map_append]
                          rfl
                        obtain ⟨T, N, hv⟩ := (j7 b1).2.2
                        rw [← b0] at hv
                        refine xa_call (va_runV (C := mj.2.1.cls) (b := ad bb) (As := (st.take mj.2.2.2.2.2.2.1).reverse.map (xh_v ad sp)) ⟨hx, hb, hml, hown, hts⟩ hM ⟨callB_of mj.2.2.2.2.2.2.1 hts hgi rfl rfl rfl (hts _ j2) (hts _ hlk) j5 (hRm mc ms), hts _ (j7 b1).1, hts _ (j7 b1).2.1⟩ ⟨xq_blind _ _ _, va_recv hK hat.1 hv (xh_ws_at hci), xq_pre X0 hat hS⟩ rfl (by rw [List.length_map, List.length_reverse]; exact b3) hl.1 hst (lv_room ?_) hd hcap) hS hfree go
                        show xm_cat (q.map (xh_v ad sp)) ≤ 8
                        rw [xm_cat_m]
                        exact b4
                      · cases hcl
                    · cases hcl
                  · rename_i idx hi1
                    split at hcl
                    · rename_i bb q2 hdrop
                      obtain ⟨b1, b2⟩ := xw_c hcl
                      cases b2
                      obtain ⟨b0, b1⟩ := xw_bb b1
                      obtain ⟨b1, b3⟩ := xw_bb b1
                      obtain ⟨b3, b4⟩ := xw_bb b3
                      obtain ⟨b4, b5⟩ := xw_bb b4
                      replace b0 := xw_beq b0
                      replace b1 := xw_beq b1
                      replace b3 := xw_beq b3
                      replace b4 := xw_ble b4
                      replace b5 := xw_ble b5
                      have hlk : Cond.methodLink mi.1 idx mj.2.1 ∈ xG := by
                        unfold xr_c at hrc
                        rw [hi1] at hrc
                        dsimp only at hrc
                        rw [b0] at hrc
                        try dsimp only at hrc
                        rw [hmk] at hrc
                        exact xw_in hrc
                      have hd := xr_len3 hrb (by rw [hi1]; rfl) (by rw [hi1]; intro a b d e z; cases z)
                      rw [hi1] at hd
                      have hM := xe_met (D := D) (cy := cy) (ad := ad) (sp := sp) hP ih hx1 hmk hok2 b5 l H.size
                      have hst : st.map (xh_v ad sp) = ((st.take mj.2.2.2.2.2.2.1).reverse.map (xh_v ad sp)).reverse ++ .ref (ad bb) :: q.map (xh_v ad sp) := by
                        rw [← List.map_reverse, List.reverse_reverse]
                        have : st = st.take mj.2.2.2.2.2.2.1 ++ .ref bb :: q := by rw [← hdrop, List.take_append_drop]
                        conv => lhs; rw [this]
                        rw [List.map_append]
                        rfl
                      obtain ⟨n1, n2, n3⟩ := j9 b1
                      unfold xq_M at hM
                      rw [n3] at hM hgi
                      have hpre : PreS s H (va_Pc ((.ref bb :: (st.take mj.2.2.2.2.2.2.1).reverse).map (xh_v ad sp)) (xq_P D cy ad sp h H.size)) (.ref (ad bb) :: (st.take mj.2.2.2.2.2.2.1).reverse.map (xh_v ad sp)) := ⟨xq_blind _ _ _, xq_pre X0 hat hS⟩
                      refine xa_call (va_runI (b := ad bb) (As := (st.take mj.2.2.2.2.2.2.1).reverse.map (xh_v ad sp)) ⟨hx, hb, hml, hown, hts⟩ hM ⟨callB_of mj.2.2.2.2.2.2.1 hts hgi rfl rfl rfl (hts _ j2) (hts _ hlk) j5 (hRm mc ms), n2, hts _ n1⟩ hpre rfl (by rw [List.length_map, List.length_reverse]; exact b3) hl.1 hst (lv_room ?_) hd hcap) hS hfree go
                      show xm_cat (q.map (xh_v ad sp)) ≤ 8
                      rw [xm_cat_m]
                      exact b4
                    · cases hcl
                  · cases hcl
end XALL
end
