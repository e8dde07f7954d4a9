section XS
/-- the String constants: in which pool, at which place, the text, its number -/
def xo_s : List (String × Nat × String × Nat) := [(RX4, 59, "body", 0), (RX6, 75, "body", 0), (RX6, 81, "carry", 1), (RX6, 83, "and", 2), (RX6, 85, "or", 3), (RX6, 87, "of", 4), (RX4, 154, "of", 4), (RX4, 128, "and", 2), (RX4, 123, "or", 3), (RX4, 69, "carry", 1)]
def xo_f (j : Nat) : Int64 := ([1, 1, 2, 6, 24, 120, 720, 5040, 40320, 362880, 3628800, 39916800, 479001600] : List Int64).getD j 0
/-- the String constants by their numbers: lengths, bytes, a char -/
def js_lens : List Nat := [4, 5, 3, 2, 2]
def js_byts : List (List Int32) := [[98, 111, 100, 121], [99, 97, 114, 114, 121], [97, 110, 100], [111, 114], [111, 102]]
def js_len (i : Nat) : Int32 := Int32.ofNat (js_lens.getD i 0)
def js_ch (i k : Nat) : Int32 := (((js_byts.getD i []).getD k 0 &&& 255).toUInt32 % 65536).toInt32
theorem js_u7 : ∀ i, i < 5 → (UInt32.ofNat (i + 7)).toNat = i + 7 := by decide
/-- what is not of ours and stays: String constants, the table of the factorials, the array class of Statutes -/
def xo_ok (sp : Nat → Nat) (A : Nat → Prop) (U : State) (H : Heap) : Prop :=
  (∀ (k : Nat) (q : String × Nat × String × Nat), xo_s[k]? = some q → vk_R q.1 q.2.1 q.2.2.1 (sp (q.2.2.2 + 2)) U) ∧ va_AO RX7 U ∧ va_Z RX2 "FACTORIALS" "[J" (.ref (sp 1)) A U H ∧ va_T .long (sp 1) 13 (fun j => .long (xo_f j)) A U H ∧ vk_S 5 js_lens js_byts (fun i => sp (i + 2)) (fun i => sp (i + 7)) A U H ∧ va_Z "java/lang/String" "COMPACT_STRINGS" "Z" (.int 1) A U H ∧ (va_Z "jdk/internal/util/Preconditions" "SIOOBE_FORMATTER" "Ljava/util/function/BiFunction;" .null A U H ∨ va_Z "jdk/internal/util/Preconditions" "SIOOBE_FORMATTER" "Ljava/util/function/BiFunction;" (.ref (sp 12)) A U H)
theorem xo_ok.warm {sp : Nat → Nat} {A : Nat → Prop} {s U : State} {H : Heap} (hW : s.WarmedH U.vm) (h : xo_ok sp A s H) : xo_ok sp A U H := ⟨fun k q hq => vk_R.warm hW (h.1 k q hq), h.2.1.moved hW.alike, h.2.2.1.moved hW.alike, h.2.2.2.1.moved hW.alike, h.2.2.2.2.1.moved hW.alike, h.2.2.2.2.2.1.moved hW.alike, h.2.2.2.2.2.2.imp (fun z => z.moved hW.alike) (fun z => z.moved hW.alike)⟩
theorem xo_ok.same {sp : Nat → Nat} {A : Nat → Prop} {s U : State} {H : Heap} (hv : U.vm = s.vm) (h : xo_ok sp A s H) : xo_ok sp A U H := by
  have hA : s.vm.Alike U.vm := by rw [hv]; exact Vm.Alike.refl s.vm
  exact ⟨fun k q hq => vk_R.same hv (h.1 k q hq), h.2.1.moved hA, h.2.2.1.moved hA, h.2.2.2.1.moved hA, h.2.2.2.2.1.moved hA, h.2.2.2.2.2.1.moved hA, h.2.2.2.2.2.2.imp (fun z => z.moved hA) (fun z => z.moved hA)⟩
theorem xo_ok.kept {sp : Nat → Nat} {A : Nat → Prop} {U : State} {H H1 : Heap} (h : xo_ok sp A U H) (hq : ∀ a : Nat, a < H.size → ¬ A a → H1[a]? = H[a]?) : xo_ok sp A U H1 := ⟨h.1, h.2.1, h.2.2.1.kept hq, h.2.2.2.1.kept hq, h.2.2.2.2.1.kept hq, h.2.2.2.2.2.1.kept hq, h.2.2.2.2.2.2.imp (fun z => z.kept hq) (fun z => z.kept hq)⟩
theorem xo_ok.narrow {sp : Nat → Nat} {A B : Nat → Prop} {U : State} {H : Heap} (h : xo_ok sp A U H) (hAB : ∀ q, B q → A q) : xo_ok sp B U H := ⟨h.1, h.2.1, h.2.2.1.narrow hAB, h.2.2.2.1.narrow hAB, h.2.2.2.2.1.narrow hAB, h.2.2.2.2.2.1.narrow hAB, h.2.2.2.2.2.2.imp (fun z => z.narrow hAB) (fun z => z.narrow hAB)⟩
def xr_len (i : Instr) : Nat := match i with
  | .bipush _ => 2
  | .ldc _ => 2
  | .iload _ => 2
  | .lload _ => 2
  | .aload _ => 2
  | .istore _ => 2
  | .lstore _ => 2
  | .astore _ => 2
  | .newarray _ => 2
  | .sipush _ => 3
  | .ldc_w _ => 3
  | .ldc2_w _ => 3
  | .iinc _ _ => 3
  | .ifCond _ _ => 3
  | .if_icmp _ _ => 3
  | .goto _ => 3
  | .ifnull _ => 3
  | .if_acmp _ _ => 3
  | .getfield _ => 3
  | .putfield _ => 3
  | .anewarray _ => 3
  | .new _ => 3
  | .invokevirtual _ => 3
  | .invokestatic _ => 3
  | .invokespecial _ => 3
  | .getstatic _ => 3
  | _ => 1
/-- the row's word and numbers -/
def xr_w (own : String) (ini : Bool) (pc : Nat) (r : xr_R) : Bool := match r.1 with
  | .getfield idx => (match vwCl[r.2.2.1]? with
    | some (_, T, N) => Nat.ble (r.2.2.2.1 + 1) N && xw_b r.2.2.2.2.1 r.2.2.2.2.2 (.fieldLink own idx (T r.2.2.2.1).1 (T r.2.2.2.1).2.1 (T r.2.2.2.1).2.2.1)
    | none => false)
  | .putfield idx => (match vwCl[r.2.2.1]? with
    | some (_, T, N) => Nat.ble (r.2.2.2.1 + 1) N && (xw_b r.2.2.2.2.1 r.2.2.2.2.2 (.fieldLink own idx (T r.2.2.2.1).1 (T r.2.2.2.1).2.1 (T r.2.2.2.1).2.2.1) && (!(T r.2.2.2.1).2.2.2 || (ini && decide ((T r.2.2.2.1).1 = own))))
    | none => false)
  | .ldc idx => (match r.2.2.2.1 with
    | 0 => xw_b r.2.2.2.2.1 r.2.2.2.2.2 (.constant own idx (Int32.ofNat r.2.2.1))
    | k + 1 => (match xo_s[k]? with
      | some q => decide (q.1 = own) && (Nat.beq q.2.1 idx && (Nat.beq (q.2.2.2 + 2) r.2.2.1 && Nat.beq (UInt32.ofNat r.2.2.1).toNat r.2.2.1))
      | none => false))
  | .ldc_w idx => xw_b r.2.2.2.2.1 r.2.2.2.2.2 (.constant own idx (Int32.ofNat r.2.2.1))
  | .ldc2_w idx => xw_b r.2.2.2.2.1 r.2.2.2.2.2 (.constantLong own idx (Int64.ofNat r.2.2.1))
  | .new idx => (match vwCl[r.2.2.1]? with
    | some (C, _, _) => xw_b r.2.2.2.2.1 r.2.2.2.2.2 (.classLink own idx C)
    | none => false)
  | .anewarray idx => xw_b r.2.2.2.2.1 r.2.2.2.2.2 (.classLink own idx RX7)
  | .ifCond _ off => decide ((pc : Int) + off = (r.2.2.1 : Int))
  | .if_icmp _ off => decide ((pc : Int) + off = (r.2.2.1 : Int))
  | .if_acmp _ off => decide ((pc : Int) + off = (r.2.2.1 : Int))
  | .goto off => decide ((pc : Int) + off = (r.2.2.1 : Int))
  | .ifnull off => decide ((pc : Int) + off = (r.2.2.1 : Int))
  | _ => true
def xr_b (own : String) (ini : Bool) (cc : ByteArray) (pc : Nat) (r : xr_R) : Bool := decide (decode cc pc = .ok (r.1, r.2.1)) && ((match r.1 with
  | .tableswitch _ _ _ _ => true
  | i => Nat.beq r.2.1 (xr_len i)) && xr_w own ini pc r)
variable {p : Program} {l : Launch} {e : Env} {R : Room} {s : State} {m : MethodId} {args : Array Value} {below : List Frame} {meth : Method} {c : Code} {H : Heap} {locs : List Loc} {Q : State → Prop}
variable {cc : ByteArray} {ls : Array Slot} {D : va_G} {A : Nat → Prop} {ad sp : Nat → Nat} {cy : Nat → ClassId} {nL : Nat} {own : String} {ini : Bool}
/-- what a method's frame stands on -/
def xc_X (p : Program) (s : State) (m : MethodId) (args : Array Value) (meth : Method) (c : Code) (cc : ByteArray) (nL : Nat) (own : String) (ini : Bool) (D : va_G) (cy : Nat → ClassId) (A : Nat → Prop) (sp : Nat → Nat) : Prop :=
  p.tables.exec = Jvm.exec ∧ c.code = cc ∧ c.maxLocals = nL ∧ s.vm.findClass own = some m.cls ∧ (∀ w ∈ xG, w.before args s = true) ∧ va_K D vwCl (xh_ts cy) s ∧ (∀ q, s.heap.size ≤ q → A q) ∧ xo_ok sp A s s.heap ∧ (ini = true → meth.name = "<init>")
/-- where it stands: the heap, the locals -/
def xc_S (D : va_G) (cy : Nat → ClassId) (ad sp : Nat → Nat) (A : Nat → Prop) (s : State) (nL : Nat) (h : xh_H) (lv : List (Nat × Value)) (H : Heap) (locs : List Loc) (ls : Array Slot) : Prop :=
  xh_at D cy ad A h H ∧ va_S A s.heap H locs ∧ lv_has ls nL (xl_m ad sp lv)
theorem xs_ld {k i len pc : Nat} {lv : List (Nat × Value)} {st : List Value} {h : xh_H} {cs ss : Nat} {o : xs_S} (he : xe_ld k i len pc lv st h cs ss = some o) : ∃ v, xl_get lv i = some v ∧ xv_k k v = true ∧ o = (pc + len, lv, v :: st, h, cs, ss) := by
  unfold xe_ld at he
  split at he
  · rename_i v hv
    obtain ⟨h1, h2⟩ := xw_c he
    exact ⟨v, hv, h1, (Option.some.inj h2).symm⟩
  · cases he
theorem xs_st1 {k i len pc nL : Nat} {lv : List (Nat × Value)} {st : List Value} {h : xh_H} {cs ss : Nat} {o : xs_S} (he : xe_st1 k i len pc nL lv st h cs ss = some o) : ∃ v r, st = v :: r ∧ xv_k k v = true ∧ i < nL ∧ o = (pc + len, xl_1 lv i v, r, h, cs, ss) := by
  unfold xe_st1 at he
  split at he
  · rename_i v r
    obtain ⟨h1, h2⟩ := xw_c he
    obtain ⟨h1, h3⟩ := xw_bb h1
    exact ⟨v, r, rfl, h1, xw_ble h3, (Option.some.inj h2).symm⟩
  · cases he
theorem xs_st2 {i len pc nL : Nat} {lv : List (Nat × Value)} {st : List Value} {h : xh_H} {cs ss : Nat} {o : xs_S} (he : xe_st2 i len pc nL lv st h cs ss = some o) : ∃ v r, st = v :: r ∧ xv_k 1 v = true ∧ i + 1 < nL ∧ o = (pc + len, xl_2 lv i v, r, h, cs, ss) := by
  unfold xe_st2 at he
  split at he
  · rename_i v r
    obtain ⟨h1, h2⟩ := xw_c he
    obtain ⟨h1, h3⟩ := xw_bb h1
    exact ⟨v, r, rfl, h1, xw_ble h3, (Option.some.inj h2).symm⟩
  · cases he
theorem xv_k0 {v : Value} (h : xv_k 0 v = true) : ∃ x, v = .int x := by cases v <;> first | exact ⟨_, rfl⟩ | cases h
theorem xv_k1 {v : Value} (h : xv_k 1 v = true) : ∃ x, v = .long x := by cases v <;> first | exact ⟨_, rfl⟩ | cases h
theorem xv_k2 {v : Value} (ad sp : Nat → Nat) (h : xv_k 2 v = true) : (∃ x, xh_v ad sp v = .ref x) ∨ xh_v ad sp v = .null := by
  cases v <;> first | exact Or.inl ⟨_, rfl⟩ | exact Or.inr rfl | cases h
set_option maxHeartbeats 4000000 in
set_option maxRecDepth 100000 in
/-- ONE INSTRUCTION, on the machine -/
theorem xe_1_ok {r : xr_R} {pc : Nat} {lv : List (Nat × Value)} {st : List Value} {h : xh_H} {cells slots : Nat} {pc' : Nat} {lv' : List (Nat × Value)} {st' : List Value} {h' : xh_H} {cells' slots' : Nat}
    (X : xc_X p s m args meth c cc nL own ini D cy A sp) (hr : xr_b own ini cc pc r = true) (he : xe_1 nL r pc lv st h cells slots = some (pc', lv', st', h', cells', slots')) (hcap : cells' ≤ R.cells ∧ slots' ≤ R.slots) (S : xc_S D cy ad sp A s nL h lv H locs ls)
    (kk : ∀ (H1 : Heap) (locs1 : List Loc) (ls1 : Array Slot), xc_S D cy ad sp A s nL h' lv' H1 locs1 ls1 → W p l e R s m args below meth c H1 locs1 cells' slots' Q (F0 m pc' ls1 (st'.map (xh_v ad sp)))) :
    W p l e R s m args below meth c H locs cells slots Q (F0 m pc ls (st.map (xh_v ad sp))) := by
  obtain ⟨hx, hb, hml, hown, hts, hK, hA, hO, hini⟩ := X
  obtain ⟨hat, hS, hl⟩ := S
  obtain ⟨hd, hr⟩ := xw_bb hr
  replace hd := of_decide_eq_true hd
  obtain ⟨hlen, hw⟩ := xw_bb hr
  clear hr
  obtain ⟨i, len, ra, rb, rK, ri⟩ := r
  dsimp only at hd hlen
  cases i with
  | iconst n =>
    cases xw_beq hlen; cases he
    exact lv_iconst hx hb hd rfl (kk _ _ _ ⟨hat, hS, hl⟩)
  | bipush n =>
    cases xw_beq hlen; cases he
    exact lv_bipush hx hb hd rfl (kk _ _ _ ⟨hat, hS, hl⟩)
  | sipush n =>
    cases xw_beq hlen; cases he
    exact lv_sipush hx hb hd rfl (kk _ _ _ ⟨hat, hS, hl⟩)
  | lconst n =>
    cases xw_beq hlen; cases he
    exact lv_lconst hx hb hd rfl (kk _ _ _ ⟨hat, hS, hl⟩)
  | ldc idx =>
    cases xw_beq hlen
    cases rb with
    | zero =>
      cases he
      exact lv_ldc hx hb hown (hts _ (xw_in hw)) hd (kk _ _ _ ⟨hat, hS, hl⟩)
    | succ k =>
      cases he
      have hw : (match xo_s[k]? with
        | some q => decide (q.1 = own) && (Nat.beq q.2.1 idx && (Nat.beq (q.2.2.2 + 2) ra && Nat.beq (UInt32.ofNat ra).toNat ra))
        | none => false) = true := hw
      cases hq : xo_s[k]? with
      | none => rw [hq] at hw; cases hw
      | some q =>
        rw [hq] at hw
        obtain ⟨h1, hw⟩ := xw_bb hw
        obtain ⟨h2, hw⟩ := xw_bb hw
        obtain ⟨h3, h4⟩ := xw_bb hw
        have h1 := of_decide_eq_true h1
        have h2 := xw_beq h2
        have h3 := xw_beq h3
        have h4 := xw_beq h4
        have hR := hO.1 k q hq
        rw [h1, h2, h3] at hR
        refine va_ldcS hx hb hown hR hd ?_
        have := kk _ _ _ ⟨hat, hS, hl⟩
        rw [show List.map (xh_v ad sp) (Value.float (UInt32.ofNat ra) :: st) = Value.ref (sp (UInt32.ofNat ra).toNat) :: st.map (xh_v ad sp) from rfl, h4] at this
        exact this
  | ldc_w idx =>
    cases xw_beq hlen; cases he
    exact lv_ldcw hx hb hown (hts _ (xw_in hw)) hd (kk _ _ _ ⟨hat, hS, hl⟩)
  | ldc2_w idx =>
    cases xw_beq hlen; cases he
    exact lv_ldc2 hx hb hown (hts _ (xw_in hw)) hd (kk _ _ _ ⟨hat, hS, hl⟩)
  | iload_n k =>
    cases xw_beq hlen
    obtain ⟨v, h1, h2, h3⟩ := xs_ld he
    cases h3
    obtain ⟨x, rfl⟩ := xv_k0 h2
    exact lv_iload_n hx hb hd rfl (xl_at hl h1) (kk _ _ _ ⟨hat, hS, hl⟩)
  | iload k =>
    cases xw_beq hlen
    obtain ⟨v, h1, h2, h3⟩ := xs_ld he
    cases h3
    obtain ⟨x, rfl⟩ := xv_k0 h2
    exact lv_iload hx hb hd (xl_at hl h1) (kk _ _ _ ⟨hat, hS, hl⟩)
  | lload_n k =>
    cases xw_beq hlen
    obtain ⟨v, h1, h2, h3⟩ := xs_ld he
    cases h3
    obtain ⟨x, rfl⟩ := xv_k1 h2
    exact lv_lload_n hx hb hd rfl (xl_at hl h1) (kk _ _ _ ⟨hat, hS, hl⟩)
  | lload k =>
    cases xw_beq hlen
    obtain ⟨v, h1, h2, h3⟩ := xs_ld he
    cases h3
    obtain ⟨x, rfl⟩ := xv_k1 h2
    exact lv_lload hx hb hd (xl_at hl h1) (kk _ _ _ ⟨hat, hS, hl⟩)
  | aload_n k =>
    cases xw_beq hlen
    obtain ⟨v, h1, h2, h3⟩ := xs_ld he
    cases h3
    have hv := xl_at hl h1
    have K := kk _ _ _ ⟨hat, hS, hl⟩
    rw [List.map_cons] at K
    rcases xv_k2 ad sp h2 with ⟨x, hx2⟩ | hx2
    · rw [hx2] at hv K
      exact lv_aload_n hx hb hd rfl hv K
    · rw [hx2] at hv K
      exact lv_aload_nN hx hb hd rfl hv K
  | aload k =>
    cases xw_beq hlen
    obtain ⟨v, h1, h2, h3⟩ := xs_ld he
    cases h3
    have hv := xl_at hl h1
    have K := kk _ _ _ ⟨hat, hS, hl⟩
    rw [List.map_cons] at K
    rcases xv_k2 ad sp h2 with ⟨x, hx2⟩ | hx2
    · rw [hx2] at hv K
      exact lv_aload hx hb hd hv K
    · rw [hx2] at hv K
      exact lv_aloadN hx hb hd hv K
  | istore_n k =>
    cases xw_beq hlen
    obtain ⟨v, q, rfl, h2, h4, h3⟩ := xs_st1 he
    cases h3
    obtain ⟨x, rfl⟩ := xv_k0 h2
    exact lv_istore_n hx hb hd rfl hl h4 (xl_m1 ad sp lv _ (.int x)) (fun ls1 hl1 => kk _ _ _ ⟨hat, hS, hl1⟩)
  | istore k =>
    cases xw_beq hlen
    obtain ⟨v, q, rfl, h2, h4, h3⟩ := xs_st1 he
    cases h3
    obtain ⟨x, rfl⟩ := xv_k0 h2
    exact lv_istore hx hb hd hl h4 (xl_m1 ad sp lv _ (.int x)) (fun ls1 hl1 => kk _ _ _ ⟨hat, hS, hl1⟩)
  | astore_n k =>
    cases xw_beq hlen
    obtain ⟨v, q, rfl, h2, h4, h3⟩ := xs_st1 he
    cases h3
    have hm := xl_m1 ad sp lv k v
    rw [List.map_cons]
    rcases xv_k2 ad sp h2 with ⟨x, hx2⟩ | hx2
    · rw [hx2] at hm ⊢
      exact lv_astore_n hx hb hd rfl hl h4 hm (fun ls1 hl1 => kk _ _ _ ⟨hat, hS, hl1⟩)
    · rw [hx2] at hm ⊢
      exact lv_astore_nN hx hb hd rfl hl h4 hm (fun ls1 hl1 => kk _ _ _ ⟨hat, hS, hl1⟩)
  | astore k =>
    cases xw_beq hlen
    obtain ⟨v, q, rfl, h2, h4, h3⟩ := xs_st1 he
    cases h3
    have hm := xl_m1 ad sp lv k v
    rw [List.map_cons]
    rcases xv_k2 ad sp h2 with ⟨x, hx2⟩ | hx2
    · rw [hx2] at hm ⊢
      exact lv_astore hx hb hd hl h4 hm (fun ls1 hl1 => kk _ _ _ ⟨hat, hS, hl1⟩)
    · rw [hx2] at hm ⊢
      exact lv_astoreN hx hb hd hl h4 hm (fun ls1 hl1 => kk _ _ _ ⟨hat, hS, hl1⟩)
  | lstore_n k =>
    cases xw_beq hlen
    obtain ⟨v, q, rfl, h2, h4, h3⟩ := xs_st2 he
    cases h3
    obtain ⟨x, rfl⟩ := xv_k1 h2
    exact lv_lstore_n hx hb hd rfl hl h4 (xl_m2 ad sp lv _ (.long x)) (fun ls1 hl1 => kk _ _ _ ⟨hat, hS, hl1⟩)
  | lstore k =>
    cases xw_beq hlen
    obtain ⟨v, q, rfl, h2, h4, h3⟩ := xs_st2 he
    cases h3
    obtain ⟨x, rfl⟩ := xv_k1 h2
    exact lv_lstore hx hb hd hl h4 (xl_m2 ad sp lv _ (.long x)) (fun ls1 hl1 => kk _ _ _ ⟨hat, hS, hl1⟩)
  | iinc k n =>
    cases xw_beq hlen
    have he : (match xl_get lv k with
      | some (.int x) => cond (Nat.ble (k + 1) nL) (some (pc + 3, xl_1 lv k (.int (x + Int32.ofInt n)), st, h, cells, slots)) none
      | _ => none) = some (pc', lv', st', h', cells', slots') := he
    split at he
    · rename_i x hv
      obtain ⟨h1, h2⟩ := xw_c he
      cases h2
      obtain ⟨k2, hk2⟩ := xl_ix (ad := ad) (sp := sp) hv
      exact lv_iinc (k := k2) hx hb hd hl hk2 rfl (xw_ble h1) (xl_m1 ad sp lv k (.int (x + Int32.ofInt n))) (fun ls1 hl1 => kk _ _ _ ⟨hat, hS, hl1⟩)
    · cases he
  | iadd =>
    cases xw_beq hlen
    obtain ⟨y, x, q, rfl, h2⟩ := xp_ii_v he
    cases h2
    exact lv_iadd hx hb hd (kk _ _ _ ⟨hat, hS, hl⟩)
  | isub =>
    cases xw_beq hlen
    obtain ⟨y, x, q, rfl, h2⟩ := xp_ii_v he
    cases h2
    exact lv_isub hx hb hd (kk _ _ _ ⟨hat, hS, hl⟩)
  | imul =>
    cases xw_beq hlen
    obtain ⟨y, x, q, rfl, h2⟩ := xp_ii_v he
    cases h2
    exact lv_imul hx hb hd (kk _ _ _ ⟨hat, hS, hl⟩)
  | iand =>
    cases xw_beq hlen
    obtain ⟨y, x, q, rfl, h2⟩ := xp_ii_v he
    cases h2
    exact lv_iand hx hb hd (kk _ _ _ ⟨hat, hS, hl⟩)
  | ior =>
    cases xw_beq hlen
    obtain ⟨y, x, q, rfl, h2⟩ := xp_ii_v he
    cases h2
    exact lv_ior hx hb hd (kk _ _ _ ⟨hat, hS, hl⟩)
  | ixor =>
    cases xw_beq hlen
    obtain ⟨y, x, q, rfl, h2⟩ := xp_ii_v he
    cases h2
    exact lv_ixor hx hb hd (kk _ _ _ ⟨hat, hS, hl⟩)
  | ishl =>
    cases xw_beq hlen
    obtain ⟨y, x, q, rfl, h2⟩ := xp_ii_v he
    cases h2
    exact lv_ishl hx hb hd (kk _ _ _ ⟨hat, hS, hl⟩)
  | ishr =>
    cases xw_beq hlen
    obtain ⟨y, x, q, rfl, h2⟩ := xp_ii_v he
    cases h2
    exact lv_ishr hx hb hd (kk _ _ _ ⟨hat, hS, hl⟩)
  | iushr =>
    cases xw_beq hlen
    obtain ⟨y, x, q, rfl, h2⟩ := xp_ii_v he
    cases h2
    exact lv_iushr hx hb hd rfl (kk _ _ _ ⟨hat, hS, hl⟩)
  | irem =>
    cases xw_beq hlen
    obtain ⟨y, x, q, rfl, h2⟩ := xp_ii_v he
    obtain ⟨h3, h2⟩ := xw_c0 h2
    cases h2
    exact lv_irem hx hb hd (of_decide_eq_false h3) (kk _ _ _ ⟨hat, hS, hl⟩)
  | ladd =>
    cases xw_beq hlen
    obtain ⟨y, x, q, rfl, h2⟩ := xp_ll_v he
    cases h2
    exact lv_ladd hx hb hd (kk _ _ _ ⟨hat, hS, hl⟩)
  | lsub =>
    cases xw_beq hlen
    obtain ⟨y, x, q, rfl, h2⟩ := xp_ll_v he
    cases h2
    exact lv_lsub hx hb hd (kk _ _ _ ⟨hat, hS, hl⟩)
  | lmul =>
    cases xw_beq hlen
    obtain ⟨y, x, q, rfl, h2⟩ := xp_ll_v he
    cases h2
    exact lv_lmul hx hb hd (kk _ _ _ ⟨hat, hS, hl⟩)
  | land =>
    cases xw_beq hlen
    obtain ⟨y, x, q, rfl, h2⟩ := xp_ll_v he
    cases h2
    exact lv_land hx hb hd (kk _ _ _ ⟨hat, hS, hl⟩)
  | lor =>
    cases xw_beq hlen
    obtain ⟨y, x, q, rfl, h2⟩ := xp_ll_v he
    cases h2
    exact lv_lor hx hb hd (kk _ _ _ ⟨hat, hS, hl⟩)
  | ldiv =>
    cases xw_beq hlen
    obtain ⟨y, x, q, rfl, h2⟩ := xp_ll_v he
    obtain ⟨h3, h2⟩ := xw_c0 h2
    cases h2
    exact lv_ldiv hx hb hd (of_decide_eq_false h3) (kk _ _ _ ⟨hat, hS, hl⟩)
  | lrem =>
    cases xw_beq hlen
    obtain ⟨y, x, q, rfl, h2⟩ := xp_ll_v he
    obtain ⟨h3, h2⟩ := xw_c0 h2
    cases h2
    exact lv_lrem hx hb hd (of_decide_eq_false h3) (kk _ _ _ ⟨hat, hS, hl⟩)
  | lushr =>
    cases xw_beq hlen
    obtain ⟨y, x, q, rfl, h2⟩ := xp_il_v he
    cases h2
    exact lv_lushr hx hb hd rfl (kk _ _ _ ⟨hat, hS, hl⟩)
  | lshl =>
    cases xw_beq hlen
    obtain ⟨y, x, q, rfl, h2⟩ := xp_il_v he
    cases h2
    exact lv_lshl hx hb hd rfl (kk _ _ _ ⟨hat, hS, hl⟩)
  | lcmp =>
    cases xw_beq hlen
    obtain ⟨y, x, q, rfl, h2⟩ := xp_ll_v he
    cases h2
    exact W.lcmp hx hb hd (kk _ _ _ ⟨hat, hS, hl⟩)
  | i2l =>
    cases xw_beq hlen
    obtain ⟨x, q, rfl, h2⟩ := xp_i_v he
    cases h2
    exact lv_i2l hx hb hd rfl (kk _ _ _ ⟨hat, hS, hl⟩)
  | l2i =>
    cases xw_beq hlen
    obtain ⟨x, q, rfl, h2⟩ := xp_l_v he
    cases h2
    exact lv_l2i hx hb hd rfl (kk _ _ _ ⟨hat, hS, hl⟩)
  | i2b =>
    cases xw_beq hlen
    obtain ⟨x, q, rfl, h2⟩ := xp_i_v he
    cases h2
    exact lv_i2b hx hb hd rfl (kk _ _ _ ⟨hat, hS, hl⟩)
  | i2c =>
    cases xw_beq hlen
    obtain ⟨x, q, rfl, h2⟩ := xp_i_v he
    cases h2
    exact lv_i2c hx hb hd rfl (kk _ _ _ ⟨hat, hS, hl⟩)
  | dup =>
    cases xw_beq hlen
    match st, he with
    | a :: q, he =>
      obtain ⟨h1, h2⟩ := xw_c he
      cases h2
      exact lv_dup hx hb hd ((xh_v_cat ad sp a).trans (xw_beq h1)) (kk _ _ _ ⟨hat, hS, hl⟩)
  | pop =>
    cases xw_beq hlen
    match st, he with
    | a :: q, he =>
      obtain ⟨h1, h2⟩ := xw_c he
      cases h2
      exact lv_pop hx hb hd ((xh_v_cat ad sp a).trans (xw_beq h1)) (kk _ _ _ ⟨hat, hS, hl⟩)
  | pop2 =>
    cases xw_beq hlen
    obtain ⟨x, q, rfl, h2⟩ := xp_l_v he
    cases h2
    exact lv_pop2_2 hx hb hd rfl (kk _ _ _ ⟨hat, hS, hl⟩)
  | dup2 =>
    cases xw_beq hlen
    match st, he with
    | a :: b :: q, he =>
      obtain ⟨h1, h2⟩ := xw_c he
      obtain ⟨h1, h3⟩ := xw_bb h1
      cases h2
      exact lv_dup2_11 hx hb hd ((xh_v_cat ad sp a).trans (xw_beq h1)) ((xh_v_cat ad sp b).trans (xw_beq h3)) (kk _ _ _ ⟨hat, hS, hl⟩)
  | dup_x2 =>
    cases xw_beq hlen
    match st, he with
    | a :: b :: d :: q, he =>
      obtain ⟨h1, h2⟩ := xw_c he
      obtain ⟨h1, h3⟩ := xw_bb h1
      obtain ⟨h3, h4⟩ := xw_bb h3
      cases h2
      exact lv_dup_x2 hx hb hd ((xh_v_cat ad sp a).trans (xw_beq h1)) ((xh_v_cat ad sp b).trans (xw_beq h3)) ((xh_v_cat ad sp d).trans (xw_beq h4)) (kk _ _ _ ⟨hat, hS, hl⟩)
  | ifCond k off =>
    cases xw_beq hlen
    obtain ⟨x, q, rfl, h2⟩ := xp_i_v he
    have hw := of_decide_eq_true hw
    cases hbb : xe_c k x 0 with
    | true =>
      rw [hbb] at h2
      cases h2
      have K := kk _ _ _ ⟨hat, hS, hl⟩
      cases k with
      | eq => exact lv_if_eq hx hb hd hw (fun _ => K) (fun z => absurd hbb (by simp [xe_c, z]))
      | ne => exact lv_if_ne hx hb hd hw (fun _ => K) (fun z => absurd hbb (by simp [xe_c, z]))
      | lt => exact lv_if_lt hx hb hd hw (fun _ => K) (fun z => absurd hbb (by simp [xe_c, z]))
      | ge => exact lv_if_ge hx hb hd hw (fun _ => K) (fun z => absurd hbb (by simp [xe_c, z]))
      | gt => exact lv_if_gt hx hb hd hw (fun _ => K) (fun z => absurd hbb (by simp [xe_c, z]))
      | le => exact lv_if_le hx hb hd hw (fun _ => K) (fun z => absurd hbb (by simp [xe_c, z]))
    | false =>
      rw [hbb] at h2
      cases h2
      have K := kk _ _ _ ⟨hat, hS, hl⟩
      cases k with
      | eq => exact lv_if_eq hx hb hd hw (fun z => absurd hbb (by simp [xe_c, z])) (fun _ => K)
      | ne => exact lv_if_ne hx hb hd hw (fun z => absurd hbb (by simp [xe_c, z])) (fun _ => K)
      | lt => exact lv_if_lt hx hb hd hw (fun z => absurd hbb (by simp [xe_c, z])) (fun _ => K)
      | ge => exact lv_if_ge hx hb hd hw (fun z => absurd hbb (by simp [xe_c, z])) (fun _ => K)
      | gt => exact lv_if_gt hx hb hd hw (fun z => absurd hbb (by simp [xe_c, z])) (fun _ => K)
      | le => exact lv_if_le hx hb hd hw (fun z => absurd hbb (by simp [xe_c, z])) (fun _ => K)
  | if_icmp k off =>
    cases xw_beq hlen
    obtain ⟨y, x, q, rfl, h2⟩ := xp_ii_v he
    have hw := of_decide_eq_true hw
    cases hbb : xe_c k x y with
    | true =>
      rw [hbb] at h2
      cases h2
      have K := kk _ _ _ ⟨hat, hS, hl⟩
      cases k with
      | eq => exact lv_icmp_eq hx hb hd hw (fun _ => K) (fun z => absurd hbb (by simp [xe_c, z]))
      | ne => exact lv_icmp_ne hx hb hd hw (fun _ => K) (fun z => absurd hbb (by simp [xe_c, z]))
      | lt => exact lv_icmp_lt hx hb hd hw (fun _ => K) (fun z => absurd hbb (by simp [xe_c, z]))
      | ge => exact lv_icmp_ge hx hb hd hw (fun _ => K) (fun z => absurd hbb (by simp [xe_c, z]))
      | gt => exact lv_icmp_gt hx hb hd hw (fun _ => K) (fun z => absurd hbb (by simp [xe_c, z]))
      | le => exact lv_icmp_le hx hb hd hw (fun _ => K) (fun z => absurd hbb (by simp [xe_c, z]))
    | false =>
      rw [hbb] at h2
      cases h2
      have K := kk _ _ _ ⟨hat, hS, hl⟩
      cases k with
      | eq => exact lv_icmp_eq hx hb hd hw (fun z => absurd hbb (by simp [xe_c, z])) (fun _ => K)
      | ne => exact lv_icmp_ne hx hb hd hw (fun z => absurd hbb (by simp [xe_c, z])) (fun _ => K)
      | lt => exact lv_icmp_lt hx hb hd hw (fun z => absurd hbb (by simp [xe_c, z])) (fun _ => K)
      | ge => exact lv_icmp_ge hx hb hd hw (fun z => absurd hbb (by simp [xe_c, z])) (fun _ => K)
      | gt => exact lv_icmp_gt hx hb hd hw (fun z => absurd hbb (by simp [xe_c, z])) (fun _ => K)
      | le => exact lv_icmp_le hx hb hd hw (fun z => absurd hbb (by simp [xe_c, z])) (fun _ => K)
  | goto off =>
    cases xw_beq hlen; cases he
    exact lv_goto hx hb hd (of_decide_eq_true hw) (kk _ _ _ ⟨hat, hS, hl⟩)
  | ifnull off =>
    cases xw_beq hlen
    have hw := of_decide_eq_true hw
    match st, he with
    | .ref _ :: q, he =>
      cases he
      exact lv_ifnull hx hb hd (kk _ _ _ ⟨hat, hS, hl⟩)
    | .null :: q, he =>
      cases he
      exact lv_ifnullN hx hb hd hw (kk _ _ _ ⟨hat, hS, hl⟩)
  | if_acmp k off =>
    cases xw_beq hlen
    cases k with
    | eq => cases he
    | ne =>
      match st, he with
      | .ref y :: .ref x :: q, he =>
        obtain ⟨h1, h2⟩ := xw_c he
        obtain ⟨h1, h3⟩ := xw_bb h1
        have hw := of_decide_eq_true hw
        have lx : x < h.1.length := xw_ble h1
        have ly : y < h.1.length := xw_ble h3
        have inj : ad x = ad y → x = y := by
          intro z
          obtain ⟨sx, hsx⟩ : ∃ sx, h.1[x]? = some sx := ⟨_, List.getElem?_eq_getElem lx⟩
          obtain ⟨sy, hsy⟩ : ∃ sy, h.1[y]? = some sy := ⟨_, List.getElem?_eq_getElem ly⟩
          exact hat.2.1.1 x y _ _ (xh_ws_at hsx) (xh_ws_at hsy) z
        refine lv_acmp_ne (rx := some (ad x)) (ry := some (ad y)) hx hb hd hw (fun z => ?_) (fun z => ?_)
        · have hne : x ≠ y := fun w => z (by rw [w])
          have hb2 : Nat.beq x y = false := by cases hq : Nat.beq x y with | false => rfl | true => exact absurd (Nat.eq_of_beq_eq_true hq) hne
          rw [hb2] at h2
          cases h2
          exact kk _ _ _ ⟨hat, hS, hl⟩
        · have heq : x = y := inj (Option.some.inj z)
          have hb2 : Nat.beq x y = true := by rw [heq]; exact Nat.beq_refl y
          rw [hb2] at h2
          cases h2
          exact kk _ _ _ ⟨hat, hS, hl⟩
  | tableswitch dflt lo hi offs =>
    obtain ⟨x, q, rfl, h2⟩ := xp_i_v he
    by_cases hin : x.toInt < lo ∨ hi < x.toInt
    · have hbool : (decide (x.toInt < lo) || decide (hi < x.toInt)) = true := by simpa using hin
      rw [hbool] at h2
      obtain ⟨h3, h2⟩ := xw_c h2
      cases h2
      have h3 := of_decide_eq_true h3
      exact lv_tableOut hx hb hd hin (by omega) (kk _ _ _ ⟨hat, hS, hl⟩)
    · have hbool : (decide (x.toInt < lo) || decide (hi < x.toInt)) = false := by simpa using hin
      rw [hbool] at h2
      cases ho : offs[(x.toInt - lo).toNat]? with
      | none => rw [ho] at h2; cases h2
      | some off =>
        rw [ho] at h2
        obtain ⟨h3, h2⟩ := xw_c h2
        cases h2
        have h3 := of_decide_eq_true h3
        exact lv_tableIn hx hb hd (fun z => hin (Or.inl z)) (fun z => hin (Or.inr z)) ho (by omega) (kk _ _ _ ⟨hat, hS, hl⟩)
  | getfield idx =>
    cases xw_beq hlen
    obtain ⟨a, q, rfl, h2⟩ := xp_r_v he
    dsimp only at h2
    split at h2
    · rename_i ci hc
      obtain ⟨h3, h2a⟩ := xw_c h2
      clear h2
      replace h3 := xw_beq h3
      subst h3
      cases h2a
      have hw : (match vwCl[ci]? with
        | some (_, T, N) => Nat.ble (rb + 1) N && xw_b rK ri (.fieldLink own idx (T rb).1 (T rb).2.1 (T rb).2.2.1)
        | none => false) = true := hw
      cases hv : vwCl[ci]? with
      | none => rw [hv] at hw; cases hw
      | some t =>
        obtain ⟨C, T, N⟩ := t
        rw [hv] at hw
        obtain ⟨h4, h5⟩ := xw_bb hw
        obtain ⟨k1, k2, -⟩ := xk_ok ci C T N hv
        have h4 : rb < N := xw_ble h4
        refine va_get (D := D) (v := xh_fv ad h a (xh_ty ci rb) rb) hx hb hts k2 hown hK hat.1 a (xh_ws_at hc) hv rb h4 (hts _ (xw_in h5)) (fun _ h9 => h9) (xh_fs_get (by rw [← k1]; exact h4)) hd ?_
        have K := kk _ _ _ ⟨hat, hS, hl⟩
        rw [List.map_cons, xh_v_get] at K
        exact K
    · cases h2
  | putfield idx =>
    cases xw_beq hlen
    obtain ⟨v, a, q, rfl, h2⟩ := xp_vr_v he
    dsimp only at h2
    split at h2
    · rename_i ci hc
      obtain ⟨h3, h2a⟩ := xw_c h2
      clear h2
      replace h3 := xw_beq h3
      subst h3
      have hw : (match vwCl[ci]? with
        | some (_, T, N) => Nat.ble (rb + 1) N && (xw_b rK ri (.fieldLink own idx (T rb).1 (T rb).2.1 (T rb).2.2.1) && (!(T rb).2.2.2 || (ini && decide ((T rb).1 = own))))
        | none => false) = true := hw
      cases hv : vwCl[ci]? with
      | none => rw [hv] at hw; cases hw
      | some t =>
        obtain ⟨C, T, N⟩ := t
        rw [hv] at hw
        obtain ⟨h4, h5⟩ := xw_bb hw
        obtain ⟨h5, h6⟩ := xw_bb h5
        obtain ⟨k1, k2, k3, k4, -⟩ := xk_ok ci C T N hv
        have h4 : rb < N := xw_ble h4
        have hfin : (T rb).2.2.2 = false ∨ (meth.name = "<init>" ∧ (T rb).1 = own) := by
          cases hf : (T rb).2.2.2 with
          | false => exact Or.inl rfl
          | true =>
            rw [hf] at h6
            obtain ⟨h7, h8⟩ := xw_bb (show (ini && decide ((T rb).1 = own)) = true from by simpa using h6)
            exact Or.inr ⟨hini h7, of_decide_eq_true h8⟩
        obtain ⟨h1, hp, h2⟩ := Option.map_eq_some_iff.mp h2a
        cases h2
        have P := @xa_put p l e R s m args below meth c H locs cells slots Q cc pc ls (List.map (xh_v ad sp) st') D A ad cy h s.heap a hx hb own (T rb).1 C T N ci idx xG hts k2 k3 k4 hown hK hat hS hc hv k1 rb h4 (hts _ (xw_in h5)) (fun _ h9 => h9) hfin
        cases hty : xh_ty ci rb with
        | int =>
          rw [hty] at P hp
          match v, hp with
          | .int x, hp =>
            cases hp
            exact P (v := .int x) rfl rfl (h' := xh_ui h a rb x) rfl (fun c' hc' => ⟨xh_up_o hc', rfl, rfl⟩) (by show Value.int (xg _ (xh_up _ _ _ _ _) _ _) = _; rw [xh_up_s]) (fun j hj => by cases xh_ty ci j <;> simp [xh_fv, xh_ui, xh_up_k hj]) hd (fun H1 locs1 a1 a2 => kk _ _ _ ⟨a1, a2, hl⟩)
        | boolean =>
          rw [hty] at P hp
          match v, hp with
          | .int x, hp =>
            obtain ⟨h7, hp⟩ := xw_c hp
            cases hp
            have h7 : x = 0 ∨ x = 1 := by simpa using h7
            refine P (v := .int x) ?_ ?_ (h' := xh_ui h a rb x) rfl (fun c' hc' => ⟨xh_up_o hc', rfl, rfl⟩) (by show Value.int (xg _ (xh_up _ _ _ _ _) _ _) = _; rw [xh_up_s]) (fun j hj => by cases xh_ty ci j <;> simp [xh_fv, xh_ui, xh_up_k hj]) hd (fun H1 locs1 a1 a2 => kk _ _ _ ⟨a1, a2, hl⟩)
            · rcases h7 with rfl | rfl <;> rfl
            · rcases h7 with rfl | rfl <;> rfl
        | long =>
          rw [hty] at P hp
          match v, hp with
          | .long x, hp =>
            cases hp
            exact P (v := .long x) rfl rfl (h' := xh_ul h a rb x) rfl (fun c' hc' => ⟨rfl, xh_up_o hc', rfl⟩) (by show Value.long (xg _ (xh_up _ _ _ _ _) _ _) = _; rw [xh_up_s]) (fun j hj => by cases xh_ty ci j <;> simp [xh_fv, xh_ul, xh_up_k hj]) hd (fun H1 locs1 a1 a2 => kk _ _ _ ⟨a1, a2, hl⟩)
        | object o =>
          rw [hty] at P hp
          match v, hp with
          | .ref x, hp =>
            cases hp
            exact P (v := .ref (ad x)) rfl rfl (h' := xh_ur h a rb (some x)) rfl (fun c' hc' => ⟨rfl, rfl, xh_up_o hc'⟩) (by show va_rf (Option.map ad (xg _ (xh_up _ _ _ _ _) _ _)) = _; rw [xh_up_s]; rfl) (fun j hj => by cases xh_ty ci j <;> simp [xh_fv, xh_ur, xh_up_k hj]) hd (fun H1 locs1 a1 a2 => kk _ _ _ ⟨a1, a2, hl⟩)
        | array o =>
          rw [hty] at P hp
          match v, hp with
          | .ref x, hp =>
            cases hp
            exact P (v := .ref (ad x)) rfl rfl (h' := xh_ur h a rb (some x)) rfl (fun c' hc' => ⟨rfl, rfl, xh_up_o hc'⟩) (by show va_rf (Option.map ad (xg _ (xh_up _ _ _ _ _) _ _)) = _; rw [xh_up_s]; rfl) (fun j hj => by cases xh_ty ci j <;> simp [xh_fv, xh_ur, xh_up_k hj]) hd (fun H1 locs1 a1 a2 => kk _ _ _ ⟨a1, a2, hl⟩)
        | byte => rw [hty] at hp; cases hp
        | char => rw [hty] at hp; cases hp
        | double => rw [hty] at hp; cases hp
        | float => rw [hty] at hp; cases hp
        | short => rw [hty] at hp; cases hp
    · cases h2
  | iaload =>
    cases xw_beq hlen
    obtain ⟨j, a, q, rfl, h2⟩ := xp_ir_v he
    split at h2
    · rename_i n hc
      obtain ⟨h3, h2⟩ := xw_c h2
      cases h2
      exact va_iald hx hb hK hat.1 a 0 (xh_ws_at hc) rfl (xe_in_v h3) hd (kk _ _ _ ⟨hat, hS, hl⟩)
    · cases h2
  | baload =>
    cases xw_beq hlen
    obtain ⟨j, a, q, rfl, h2⟩ := xp_ir_v he
    split at h2
    · rename_i n hc
      obtain ⟨h3, h2⟩ := xw_c h2
      cases h2
      exact va_bald hx hb hK hat.1 a 1 (xh_ws_at hc) rfl (xe_in_v h3) hd (kk _ _ _ ⟨hat, hS, hl⟩)
    · rename_i n hc
      obtain ⟨h3, h2⟩ := xw_c h2
      cases h2
      exact va_zald hx hb hK hat.1 a 2 (xh_ws_at hc) rfl (xe_in_v h3) hd (kk _ _ _ ⟨hat, hS, hl⟩)
    · cases h2
  | laload =>
    cases xw_beq hlen
    obtain ⟨j, a, q, rfl, h2⟩ := xp_ir_v he
    split at h2
    · rename_i n hc
      obtain ⟨h3, h2⟩ := xw_c h2
      cases h2
      exact va_lald hx hb hK hat.1 a 3 (xh_ws_at hc) rfl (xe_in_v h3) hd (kk _ _ _ ⟨hat, hS, hl⟩)
    · cases h2
  | aaload =>
    cases xw_beq hlen
    obtain ⟨j, a, q, rfl, h2⟩ := xp_ir_v he
    split at h2
    · rename_i n hc
      obtain ⟨h3, h2⟩ := xw_c h2
      cases h2
      refine va_aldq hx hb hK hat.1 a 4 (xh_ws_at hc) rfl (xe_in_v h3) hd ?_
      have K := kk _ _ _ ⟨hat, hS, hl⟩
      rw [List.map_cons, xh_v_rf] at K
      exact K
    · cases h2
  | iastore =>
    cases xw_beq hlen
    obtain ⟨x, j, a, q, rfl, h2⟩ := xp_iir_v he
    split at h2
    · rename_i n hc
      obtain ⟨h3, h2⟩ := xw_c h2
      cases h2
      exact xa_iast hx hb hK hat hS hc (xe_in_v h3) hd (fun H1 locs1 a1 a2 => kk _ _ _ ⟨a1, a2, hl⟩)
    · cases h2
  | bastore =>
    cases xw_beq hlen
    obtain ⟨x, j, a, q, rfl, h2⟩ := xp_iir_v he
    split at h2
    · rename_i n hc
      obtain ⟨h3, h2⟩ := xw_c h2
      cases h2
      exact xa_bast hx hb hK hat hS hc (xe_in_v h3) hd (fun H1 locs1 a1 a2 => kk _ _ _ ⟨a1, a2, hl⟩)
    · rename_i n hc
      obtain ⟨h3, h2⟩ := xw_c h2
      cases h2
      exact xa_zast hx hb hK hat hS hc (xe_in_v h3) hd (fun H1 locs1 a1 a2 => kk _ _ _ ⟨a1, a2, hl⟩)
    · cases h2
  | lastore =>
    cases xw_beq hlen
    obtain ⟨x, j, a, q, rfl, h2⟩ := xp_lir_v he
    split at h2
    · rename_i n hc
      obtain ⟨h3, h2⟩ := xw_c h2
      cases h2
      exact xa_last hx hb hK hat hS hc (xe_in_v h3) hd (fun H1 locs1 a1 a2 => kk _ _ _ ⟨a1, a2, hl⟩)
    · cases h2
  | aastore =>
    cases xw_beq hlen
    obtain ⟨x, j, a, q, rfl, h2⟩ := xp_rir_v he
    split at h2
    · rename_i n hc
      split at h2
      · rename_i hv
        obtain ⟨h3, h2⟩ := xw_c h2
        cases h2
        exact xa_astq hx hb hK hat hS hc hv (xe_in_v h3) hd (fun H1 locs1 a1 a2 => kk _ _ _ ⟨a1, a2, hl⟩)
      · cases h2
    · cases h2
  | arraylength =>
    cases xw_beq hlen
    obtain ⟨a, q, rfl, h2⟩ := xp_r_v he
    split at h2
    · rename_i k n hc
      obtain ⟨h3, h2⟩ := xw_c h2
      cases h2
      have h3 : k + 1 ≤ 5 := xw_ble h3
      have hws := xh_ws_at (ad := ad) (cy := cy) hc
      match k, h3, hws with
      | 0, _, hws => exact va_alen hx hb hK hat.1 a 0 hws rfl rfl hd (kk _ _ _ ⟨hat, hS, hl⟩)
      | 1, _, hws => exact va_alen hx hb hK hat.1 a 1 hws rfl rfl hd (kk _ _ _ ⟨hat, hS, hl⟩)
      | 2, _, hws => exact va_alen hx hb hK hat.1 a 2 hws rfl rfl hd (kk _ _ _ ⟨hat, hS, hl⟩)
      | 3, _, hws => exact va_alen hx hb hK hat.1 a 3 hws rfl rfl hd (kk _ _ _ ⟨hat, hS, hl⟩)
      | 4, _, hws => exact va_alen hx hb hK hat.1 a 4 hws rfl rfl hd (kk _ _ _ ⟨hat, hS, hl⟩)
      | k + 5, h3, _ => omega
    · cases h2
  | newarray t =>
    cases xw_beq hlen
    obtain ⟨z, q, rfl, h2⟩ := xp_i_v he
    obtain ⟨h3, h2⟩ := xw_c h2
    cases h2
    obtain ⟨h3, h4⟩ := xw_bb h3
    obtain ⟨h4, h5⟩ := xw_bb h4
    have h4 : xa_k t ≤ 5 := xw_ble h4
    have h5 := xw_ble h5
    have h3 : ¬ z < 0 := by simpa using h3
    have harr : (Cond.arrayClass (newarray.typeOf t)).before args s = true := by
      cases t with
      | int => exact hts _ xk_aI
      | byte => exact hts _ xk_aB
      | boolean => exact hts _ xk_aZ
      | long => exact hts _ xk_aJ
      | char => exact absurd h4 (by decide)
      | float => exact absurd h4 (by decide)
      | double => exact absurd h4 (by decide)
      | short => exact absurd h4 (by decide)
    exact xa_newa hx hb harr h4 hK hat hS hA h3 h5 hcap.1 hcap.2 hd (fun H1 a1 a2 => kk _ _ _ ⟨a1, a2, hl⟩)
  | anewarray idx =>
    cases xw_beq hlen
    obtain ⟨z, q, rfl, h2⟩ := xp_i_v he
    obtain ⟨h3, h2⟩ := xw_c h2
    cases h2
    obtain ⟨h3, h5⟩ := xw_bb h3
    have h5 := xw_ble h5
    have h3 : ¬ z < 0 := by simpa using h3
    exact xa_newq hx hb hown (hts _ (xw_in hw)) (va_AO.use hO.2.1) hK hat hS hA h3 h5 hcap.1 hcap.2 hd (fun H1 a1 a2 => kk _ _ _ ⟨a1, a2, hl⟩)
  | new idx =>
    cases xw_beq hlen
    cases he
    have hw : (match vwCl[ra]? with
      | some (C, _, _) => xw_b rK ri (.classLink own idx C)
      | none => false) = true := hw
    cases hv : vwCl[ra]? with
    | none => rw [hv] at hw; cases hw
    | some t =>
      obtain ⟨C, T, N⟩ := t
      rw [hv] at hw
      obtain ⟨k1, k2, k3, k4, k5, k6, k7⟩ := xk_ok ra C T N hv
      dsimp only at hcap
      rw [← k1] at hcap
      refine xa_new hx hb hts k2 k3 k5 hown (hts _ (xw_in hw)) (hts _ k6) (hts _ k7) hK hat hS hA hv k1 hcap.1 hcap.2 hd (fun H1 a1 a2 => ?_)
      have K := kk _ _ _ ⟨a1, a2, hl⟩
      dsimp only at K
      rw [← k1] at K
      exact K
  | _ => cases he
end XS
