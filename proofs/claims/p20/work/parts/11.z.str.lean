section XSTR
theorem jw_in2 {K i : Nat} {w : Cond} (h : (xtb K)[i]? = some w) (hg : goodWord w = true) : w ∈ xG := List.mem_filter.mpr ⟨xtb_in (List.mem_of_getElem? h), hg⟩
theorem jw_iS : Cond.initialized RJ0 ∈ xG := xw_in (K := 1) (i := 13) (by decide +kernel)
theorem jw_iL : Cond.initialized RJ1 ∈ xG := xw_in (K := 1) (i := 14) (by decide +kernel)
theorem jw_iP : Cond.initialized RJ3 ∈ xG := xw_in (K := 1) (i := 15) (by decide +kernel)
theorem jw_c_len : Cond.code yJ0_length_8abf5 cJ0_length_8abf5 1 (some .int) ∈ xG := jw_in2 (K := 2) (i := 206) rfl rfl
theorem jw_n_len : Cond.instanceMethod yJ0_length_8abf5 ∈ xG := xw_in (K := 2) (i := 204) (by decide +kernel)
theorem jw_s_len : Cond.selects RJ0 yJ0_length_8abf5 yJ0_length_8abf5 ∈ xG := xw_in (K := 2) (i := 205) (by decide +kernel)
theorem jw_c_cod : Cond.code yJ0_coder_7d493 cJ0_coder_7d493 1 (some .byte) ∈ xG := jw_in2 (K := 2) (i := 210) rfl rfl
theorem jw_n_cod : Cond.instanceMethod yJ0_coder_7d493 ∈ xG := xw_in (K := 2) (i := 208) (by decide +kernel)
theorem jw_s_cod : Cond.selects RJ0 yJ0_coder_7d493 yJ0_coder_7d493 ∈ xG := xw_in (K := 2) (i := 209) (by decide +kernel)
theorem jw_c_lat : Cond.code yJ0_isLatin1_aae02 cJ0_isLatin1_aae02 1 (some .boolean) ∈ xG := jw_in2 (K := 2) (i := 220) rfl rfl
theorem jw_n_lat : Cond.instanceMethod yJ0_isLatin1_aae02 ∈ xG := xw_in (K := 2) (i := 218) (by decide +kernel)
theorem jw_s_lat : Cond.selects RJ0 yJ0_isLatin1_aae02 yJ0_isLatin1_aae02 ∈ xG := xw_in (K := 2) (i := 219) (by decide +kernel)
theorem jw_c_cha : Cond.code yJ0_charAt_5068e cJ0_charAt_5068e 2 (some .char) ∈ xG := jw_in2 (K := 2) (i := 216) rfl rfl
theorem jw_n_cha : Cond.instanceMethod yJ0_charAt_5068e ∈ xG := xw_in (K := 2) (i := 214) (by decide +kernel)
theorem jw_s_cha : Cond.selects RJ0 yJ0_charAt_5068e yJ0_charAt_5068e ∈ xG := xw_in (K := 2) (i := 215) (by decide +kernel)
theorem jw_c_ch1 : Cond.code yJ1_charAt_3b067 cJ1_charAt_3b067 2 (some .char) ∈ xG := jw_in2 (K := 2) (i := 223) rfl rfl
theorem jw_t_ch1 : Cond.static yJ1_charAt_3b067 ∈ xG := xw_in (K := 2) (i := 222) (by decide +kernel)
theorem jw_c_ck0 : Cond.code yJ0_checkIndex_df160 cJ0_checkIndex_df160 2 none ∈ xG := jw_in2 (K := 2) (i := 226) rfl rfl
theorem jw_t_ck0 : Cond.static yJ0_checkIndex_df160 ∈ xG := xw_in (K := 2) (i := 225) (by decide +kernel)
theorem jw_c_ck3 : Cond.code yJ3_checkIndex_8e157 cJ3_checkIndex_8e157 3 (some .int) ∈ xG := jw_in2 (K := 2) (i := 231) rfl rfl
theorem jw_t_ck3 : Cond.static yJ3_checkIndex_8e157 ∈ xG := xw_in (K := 2) (i := 230) (by decide +kernel)
theorem jw_l_cod : Cond.methodLink RJ0 335 yJ0_coder_7d493 ∈ xG := xw_in (K := 2) (i := 207) (by decide +kernel)
theorem jw_l_lat : Cond.methodLink RJ0 492 yJ0_isLatin1_aae02 ∈ xG := xw_in (K := 2) (i := 217) (by decide +kernel)
theorem jw_l_ch1 : Cond.methodLink RJ0 495 yJ1_charAt_3b067 ∈ xG := xw_in (K := 2) (i := 221) (by decide +kernel)
theorem jw_l_ck0 : Cond.methodLink RJ1 9 yJ0_checkIndex_df160 ∈ xG := xw_in (K := 2) (i := 224) (by decide +kernel)
theorem jw_l_ck3 : Cond.methodLink RJ0 1059 yJ3_checkIndex_8e157 ∈ xG := xw_in (K := 2) (i := 229) (by decide +kernel)
theorem jw_f_cmp : Cond.fieldLink RJ0 38 "java/lang/String" "COMPACT_STRINGS" "Z" ∈ xG := xw_in (K := 2) (i := 211) (by decide +kernel)
theorem jw_f_val : Cond.fieldLink RJ0 9 "java/lang/String" "value" "[B" ∈ xG := xw_in (K := 7) (i := 186) (by decide +kernel)
theorem jw_f_cod : Cond.fieldLink RJ0 15 "java/lang/String" "coder" "B" ∈ xG := xw_in (K := 7) (i := 187) (by decide +kernel)
theorem jw_f_fmt : Cond.fieldLink RJ0 1053 "jdk/internal/util/Preconditions" "SIOOBE_FORMATTER" "Ljava/util/function/BiFunction;" ∈ xG := xw_in (K := 2) (i := 227) (by decide +kernel)
variable {p : Program} {l : Launch} {e : Env} {R : Room} {s : State} {m : MethodId} {args : Array Value} {below : List Frame} {meth : Method} {c : Code} {H : Heap} {locs : List Loc} {Q : State → Prop} {cells slots : Nat}
variable {cc : ByteArray} {ls : Array Slot} {D : va_G} {A : Nat → Prop} {ad sp : Nat → Nat} {cy : Nat → ClassId} {nL : Nat} {own : String} {ini : Bool}
/-- a JDK method that leaves all as it was: its contract -/
def js_M (l : Launch) (D : va_G) (cy : Nat → ClassId) (ad sp : Nat → Nat) (y : MethodName) (bytes : ByteArray) (maxL : Nat) (ret : Option FieldType) (As : List Value) (h : xh_H) (sz d : Nat) (v : Option Value) : Prop :=
  Met l y (Cond.code y bytes maxL ret :: xG) (xm_rm d 0 0) (va_Pc (As.map (xh_v ad sp)) (xq_P D cy ad sp h sz)) (xq_Q D cy ad sp v h (va_A (xh_ws ad cy h) sz)) 0 0 (va_A (xh_ws ad cy h) sz)
theorem js_met {y : MethodName} {bytes : ByteArray} {maxL : Nat} {ret : Option FieldType} {As : List Value} {h : xh_H} {sz d : Nat} {v : Option Value} (hpl : _root_.Jvm.plainName y.cls = true) (hfit : xm_cat As ≤ maxL)
    (hw : ∀ (p : Program) (e : Env) (s : State) (m : MethodId) (args : Array Value) (below : List Frame) (meth : Method) (c : Code) (ls : Array Slot) (A : Nat → Prop), xc_X p s m args meth c bytes maxL y.cls false D cy A sp → meth.sig.returnType = ret → meth.locks = false → xc_S D cy ad sp A s maxL h (lv_args 0 As) s.heap [] ls → W p l e (xm_rm d 0 0) s m args below meth c s.heap [] 0 0 (MQ below (xq_Q D cy ad sp v h A) args s 0 0 A) (F0 m 0 ls ([].map (xh_v ad sp)))) : js_M l D cy ad sp y bytes maxL ret As h sz d v := by
  refine Met.ofW (cc := bytes) (maxL := maxL) (ret := ret) hpl rfl ?_
  intro p e s m args below meth c s₁ B hml hv
  obtain ⟨rfl, hsz, hat, hK, hO⟩ := hv
  have hts := atoms_spec (ws := Cond.code y bytes maxL ret :: xG) B.pre
  have hown : s.vm.findClass y.cls = some m.cls := findClass_of_methodNamed B.named
  have hl := lv_entry (As.map (xh_v ad sp)) (n := maxL) (by rw [lg_sl_len, xm_cat_m]; exact hfit)
  rw [lv_args_m] at hl
  rw [lg_entry_eq]
  subst hsz
  have hD := hat.2.1.self (sz := s.heap.size)
  exact hw p e s m _ below meth c _ (va_A (xh_ws ad cy h) s.heap.size) ⟨B.exec, B.bytes, hml, hown, fun w hw => hts w (List.mem_cons_of_mem _ hw), hK, fun q hq => Or.inr hq, hO, fun z => by cases z⟩ B.returns B.notSynchronized ⟨⟨hat.1, hD, hat.2.2⟩, va_S.rf, hl⟩
theorem js_good {y : MethodName} {bytes : ByteArray} {maxL : Nat} {ret : Option FieldType} (hc : Cond.code y bytes maxL ret ∈ xG) : GoodIn xG (Cond.code y bytes maxL ret :: xG) := fun w hw => by
  rcases List.mem_cons.mp hw with rfl | hw
  · exact xG_good hc
  · exact xG_good hw
/-- a call of a String constant's method -/
theorem js_callV {y : MethodName} {bytes : ByteArray} {maxL : Nat} {ret : Option FieldType} {Bs q : List Value} {u : UInt32} {i d idx n pc : Nat} {v : Option Value} {h : xh_H} {lv : List (Nat × Value)} (X : xc_X p s m args meth c cc nL own ini D cy A sp) (S : xc_S D cy ad sp A s nL h lv H locs ls) (hi : i < 5) (hu : u.toNat = i + 2)
    (hM : js_M l D cy ad sp y bytes maxL ret (.float u :: Bs) h H.size d v) (hy : y.cls = RJ0) (hc : Cond.code y bytes maxL ret ∈ xG) (hn : Cond.instanceMethod y ∈ xG) (hse : Cond.selects RJ0 y y ∈ xG) (hlk : Cond.methodLink own idx y ∈ xG) (hmh : y.cls ≠ "java/lang/invoke/MethodHandle" ∧ y.cls ≠ "java/lang/invoke/VarHandle" ∧ (parseMethodDescriptor y.desc).map (fun d => d.parameters.length) = some n)
    (hlen : Bs.length = n) (hR : d + 1 ≤ R.frames ∧ 8 + (maxL + 11) + 40 * d ≤ R.locals) (hcap : cells ≤ R.cells ∧ slots ≤ R.slots) (hq : xm_cat q ≤ 8) (hd : decode cc pc = .ok (.invokevirtual idx, 3))
    (kk : ∀ (H1 : Heap) (locs1 : List Loc), xc_S D cy ad sp A s nL h lv H1 locs1 ls → W p l e R s m args below meth c H1 locs1 cells slots Q (F0 m (pc + 3) ls ((v.toList ++ q).map (xh_v ad sp)))) :
    W p l e R s m args below meth c H locs cells slots Q (F0 m pc ls ((Bs.reverse ++ .float u :: q).map (xh_v ad sp))) := by
  have X0 := X
  obtain ⟨hx, hb, hml, hown, hts, hK, hA, hO, hini⟩ := X
  obtain ⟨hat, hS, hl⟩ := S
  have hfree := xq_free hat hS hA
  have hrecv : ∃ cell : Cell, H[sp u.toNat]? = some cell ∧ cell.vm.isStatics = false ∧ s.vm.findClass RJ0 = some cell.cls := by
    rw [hu]
    exact vk_recv (adK := fun i => sp (i + 2)) hO.2.2.2.2.1 hi hS
  have hst : (Bs.reverse ++ .float u :: q).map (xh_v ad sp) = (Bs.map (xh_v ad sp)).reverse ++ .ref (sp u.toNat) :: q.map (xh_v ad sp) := by
    rw [List.map_append, List.map_reverse]
    rfl
  refine xa_call (v := v) (h1 := h) (va_runV (C := RJ0) (b := sp u.toNat) (As := Bs.map (xh_v ad sp)) ⟨hx, hb, hml, hown, hts⟩ hM ⟨callB_of n hts (js_good hc) rfl rfl rfl (by rw [hy]; exact hts _ jw_iS) (hts _ hlk) hmh hR, hts _ hn, hts _ hse⟩ ⟨xq_blind _ _ _, hrecv, xq_pre X0 hat hS⟩ rfl (by rw [List.length_map]; exact hlen) hl.1 hst (lv_room ?_) hd hcap) hS hfree ?_
  · show xm_cat (q.map (xh_v ad sp)) ≤ 8
    rw [xm_cat_m]
    exact hq
  · intro H1 locs1 a1 a2
    have K := kk H1 locs1 ⟨a1, a2, hl⟩
    rw [List.map_append] at K
    cases v with
    | none => exact K
    | some w => exact K
/-- a call of a static method of the JDK -/
theorem js_callS {y : MethodName} {bytes : ByteArray} {maxL : Nat} {ret : Option FieldType} {As q : List Value} {d idx n pc : Nat} {v : Option Value} {h : xh_H} {lv : List (Nat × Value)} (X : xc_X p s m args meth c cc nL own ini D cy A sp) (S : xc_S D cy ad sp A s nL h lv H locs ls)
    (hM : js_M l D cy ad sp y bytes maxL ret As h H.size d v) (hin : Cond.initialized y.cls ∈ xG) (hc : Cond.code y bytes maxL ret ∈ xG) (hn : Cond.static y ∈ xG) (hlk : Cond.methodLink own idx y ∈ xG) (hmh : y.cls ≠ "java/lang/invoke/MethodHandle" ∧ y.cls ≠ "java/lang/invoke/VarHandle" ∧ (parseMethodDescriptor y.desc).map (fun d => d.parameters.length) = some n)
    (hlen : As.length = n) (hR : d + 1 ≤ R.frames ∧ 8 + (maxL + 11) + 40 * d ≤ R.locals) (hcap : cells ≤ R.cells ∧ slots ≤ R.slots) (hq : xm_cat q ≤ 8) (hd : decode cc pc = .ok (.invokestatic idx, 3))
    (kk : ∀ (H1 : Heap) (locs1 : List Loc), xc_S D cy ad sp A s nL h lv H1 locs1 ls → W p l e R s m args below meth c H1 locs1 cells slots Q (F0 m (pc + 3) ls ((v.toList ++ q).map (xh_v ad sp)))) :
    W p l e R s m args below meth c H locs cells slots Q (F0 m pc ls ((As.reverse ++ q).map (xh_v ad sp))) := by
  have X0 := X
  obtain ⟨hx, hb, hml, hown, hts, hK, hA, hO, hini⟩ := X
  obtain ⟨hat, hS, hl⟩ := S
  have hfree := xq_free hat hS hA
  have hst : (As.reverse ++ q).map (xh_v ad sp) = (As.map (xh_v ad sp)).reverse ++ q.map (xh_v ad sp) := by
    rw [List.map_append, List.map_reverse]
  refine xa_call (v := v) (h1 := h) (va_runS (As := As.map (xh_v ad sp)) ⟨hx, hb, hml, hown, hts⟩ hM ⟨callB_of n hts (js_good hc) rfl rfl rfl (hts _ hin) (hts _ hlk) hmh hR, hts _ hn⟩ ⟨xq_blind _ _ _, xq_pre X0 hat hS⟩ rfl (by rw [List.length_map]; exact hlen) hl.1 hst (lv_room ?_) hd hcap) hS hfree ?_
  · show xm_cat (q.map (xh_v ad sp)) ≤ 8
    rw [xm_cat_m]
    exact hq
  · intro H1 locs1 a1 a2
    have K := kk H1 locs1 ⟨a1, a2, hl⟩
    rw [List.map_append] at K
    cases v with
    | none => exact K
    | some w => exact K
theorem js_lt {k : Int32} {i : Nat} (hi : i < 5) (h0 : ¬ k < 0) (hk : k.toNatClampNeg + 1 ≤ js_lens.getD i 0) : k < js_len i := by
  obtain ⟨j, hj, e⟩ := nI_of h0
  subst e
  rw [nI_clamp hj] at hk
  have hb : ∀ i, i < 5 → js_lens.getD i 0 ≤ 5 := by decide
  have hb := hb i hi
  exact nI_lt (by omega) (by omega)
theorem js_len0 : ∀ i, i < 5 → js_len i >>> ((0 : Int32) &&& 31) = js_len i := by decide
theorem js_coder {u : UInt32} {i : Nat} (hi : i < 5) (hu : u.toNat = i + 2) (h : xh_H) (sz d : Nat) : js_M l D cy ad sp yJ0_coder_7d493 cJ0_coder_7d493 1 (some .byte) [.float u] h sz d (some (.int 0)) := by
  refine js_met (by decide) (Nat.le_refl 1) ?_
  intro p e s m args below meth c ls A X hr hlk S
  have X0 := X
  obtain ⟨hx, hb, hml, hown, hts, hK, hA, hO, hini⟩ := X
  obtain ⟨hat, hS, hl⟩ := S
  refine va_gets hx hb hO.2.2.2.2.2.1 hS hown (hts _ jw_f_cmp) (fun _ h9 => h9) (show decode cJ0_coder_7d493 0 = .ok (.getstatic 38, 3) by decide +kernel) ?_
  refine xe_1_ok (st := [.int 1]) (r := (.ifCond .eq 10, 3, 13, 0, 0, 0)) X0 (by decide +kernel) rfl ⟨Nat.le_refl _, Nat.le_refl _⟩ ⟨hat, hS, hl⟩ ?_
  intro H1 locs1 ls1 S1
  refine xe_1_ok (st := []) (r := (.aload_n 0, 1, 0, 0, 0, 0)) X0 (by decide +kernel) rfl ⟨Nat.le_refl _, Nat.le_refl _⟩ S1 ?_
  intro H2 locs2 ls2 S2
  have hof := (hO.2.2.2.2.1.1 i hi).2.1
  dsimp only at hof
  rw [← hu] at hof
  refine vk_getf hx hb hof S2.2.1 hown (hts _ jw_f_cod) (fun _ h9 => h9) (show decode cJ0_coder_7d493 7 = .ok (.getfield 15, 3) by decide +kernel) ?_
  refine xe_1_ok (st := [.int 0]) (r := (.goto 4, 3, 14, 0, 0, 0)) X0 (by decide +kernel) rfl ⟨Nat.le_refl _, Nat.le_refl _⟩ S2 ?_
  intro H3 locs3 ls3 S3
  exact W.zret (ty := .byte) hx hb hr rfl (fun t ht hW => ⟨rfl, by rw [ht]; exact S3.1, S3.2.1.F ht⟩) S3.2.1.2.2 (show decode cJ0_coder_7d493 14 = .ok (.ireturn, 1) by decide +kernel) hlk
theorem js_latin {u : UInt32} {i : Nat} (hi : i < 5) (hu : u.toNat = i + 2) (h : xh_H) (sz d : Nat) : js_M l D cy ad sp yJ0_isLatin1_aae02 cJ0_isLatin1_aae02 1 (some .boolean) [.float u] h sz d (some (.int 1)) := by
  refine js_met (by decide) (Nat.le_refl 1) ?_
  intro p e s m args below meth c ls A X hr hlk S
  have X0 := X
  obtain ⟨hx, hb, hml, hown, hts, hK, hA, hO, hini⟩ := X
  obtain ⟨hat, hS, hl⟩ := S
  refine va_gets hx hb hO.2.2.2.2.2.1 hS hown (hts _ jw_f_cmp) (fun _ h9 => h9) (show decode cJ0_isLatin1_aae02 0 = .ok (.getstatic 38, 3) by decide +kernel) ?_
  refine xe_1_ok (st := [.int 1]) (r := (.ifCond .eq 14, 3, 17, 0, 0, 0)) X0 (by decide +kernel) rfl ⟨Nat.le_refl _, Nat.le_refl _⟩ ⟨hat, hS, hl⟩ ?_
  intro H1 locs1 ls1 S1
  refine xe_1_ok (st := []) (r := (.aload_n 0, 1, 0, 0, 0, 0)) X0 (by decide +kernel) rfl ⟨Nat.le_refl _, Nat.le_refl _⟩ S1 ?_
  intro H2 locs2 ls2 S2
  have hof := (hO.2.2.2.2.1.1 i hi).2.1
  dsimp only at hof
  rw [← hu] at hof
  refine vk_getf hx hb hof S2.2.1 hown (hts _ jw_f_cod) (fun _ h9 => h9) (show decode cJ0_isLatin1_aae02 7 = .ok (.getfield 15, 3) by decide +kernel) ?_
  refine xe_1_ok (st := [.int 0]) (r := (.ifCond .ne 7, 3, 17, 0, 0, 0)) X0 (by decide +kernel) rfl ⟨Nat.le_refl _, Nat.le_refl _⟩ S2 ?_
  intro H3 locs3 ls3 S3
  refine xe_1_ok (st := []) (r := (.iconst 1, 1, 0, 0, 0, 0)) X0 (by decide +kernel) rfl ⟨Nat.le_refl _, Nat.le_refl _⟩ S3 ?_
  intro H4 locs4 ls4 S4
  refine xe_1_ok (st := [.int 1]) (r := (.goto 4, 3, 18, 0, 0, 0)) X0 (by decide +kernel) rfl ⟨Nat.le_refl _, Nat.le_refl _⟩ S4 ?_
  intro H5 locs5 ls5 S5
  exact W.zret (ty := .boolean) hx hb hr rfl (fun t ht hW => ⟨rfl, by rw [ht]; exact S5.1, S5.2.1.F ht⟩) S5.2.1.2.2 (show decode cJ0_isLatin1_aae02 18 = .ok (.ireturn, 1) by decide +kernel) hlk
/-- String.length() -/
theorem js_length {u : UInt32} {i : Nat} (hi : i < 5) (hu : u.toNat = i + 2) (h : xh_H) (sz d : Nat) : js_M l D cy ad sp yJ0_length_8abf5 cJ0_length_8abf5 1 (some .int) [.float u] h sz (d + 1) (some (.int (js_len i))) := by
  refine js_met (by decide) (Nat.le_refl 1) ?_
  intro p e s m args below meth c ls A X hr hlk S
  have X0 := X
  obtain ⟨hx, hb, hml, hown, hts, hK, hA, hO, hini⟩ := X
  refine xe_1_ok (st := []) (r := (.aload_n 0, 1, 0, 0, 0, 0)) X0 (by decide +kernel) rfl ⟨Nat.le_refl _, Nat.le_refl _⟩ S ?_
  intro H1 locs1 ls1 S1
  have hof := (hO.2.2.2.2.1.1 i hi).2.2.1
  have hT := (hO.2.2.2.2.1.1 i hi).2.2.2
  dsimp only at hof
  rw [← hu] at hof
  refine vk_getf hx hb hof S1.2.1 hown (hts _ jw_f_val) (fun _ h9 => h9) (show decode cJ0_length_8abf5 1 = .ok (.getfield 9, 3) by decide +kernel) ?_
  refine va_tlen hx hb hT S1.2.1 (v := js_len i) rfl (show decode cJ0_length_8abf5 4 = .ok (.arraylength, 1) by decide +kernel) ?_
  refine xe_1_ok (st := [.int (js_len i)]) (r := (.aload_n 0, 1, 0, 0, 0, 0)) X0 (by decide +kernel) rfl ⟨Nat.le_refl _, Nat.le_refl _⟩ S1 ?_
  intro H2 locs2 ls2 S2
  refine js_callV (Bs := []) (q := [.int (js_len i)]) (n := 0) (d := d) X0 S2 hi hu (js_coder hi hu h H2.size d) rfl jw_c_cod jw_n_cod jw_s_cod jw_l_cod (by decide) rfl ⟨Nat.le_refl _, by show 8 + (1 + 11) + 40 * d ≤ 40 * (d + 1); omega⟩ ⟨Nat.le_refl _, Nat.le_refl _⟩ (Nat.le_of_ble_eq_true rfl) (show decode cJ0_length_8abf5 6 = .ok (.invokevirtual 335, 3) by decide +kernel) ?_
  intro H3 locs3 S3
  refine xe_1_ok (st := [.int 0, .int (js_len i)]) (r := (.ishr, 1, 0, 0, 0, 0)) X0 (by decide +kernel) rfl ⟨Nat.le_refl _, Nat.le_refl _⟩ S3 ?_
  intro H4 locs4 ls4 S4
  rw [js_len0 i hi]
  exact W.iret hx hb hr (fun t ht hW => ⟨rfl, by rw [ht]; exact S4.1, S4.2.1.F ht⟩) S4.2.1.2.2 (show decode cJ0_length_8abf5 10 = .ok (.ireturn, 1) by decide +kernel) hlk
/-- Preconditions.checkIndex, of a good index -/
theorem js_ck3 {k n : Int32} {z : Value} (hz : z = .null ∨ z = .float 12) (h0 : ¬ k < 0) (hkn : k < n) (h : xh_H) (sz d : Nat) : js_M l D cy ad sp yJ3_checkIndex_8e157 cJ3_checkIndex_8e157 3 (some .int) [.int k, .int n, z] h sz d (some (.int k)) := by
  have hcat : xm_cat [.int k, .int n, z] ≤ 3 := by rcases hz with rfl | rfl <;> exact Nat.le_of_ble_eq_true rfl
  refine js_met (by decide) hcat ?_
  intro p e s m args below meth c ls A X hr hlk S
  have X0 := X
  obtain ⟨hx, hb, hml, hown, hts, hK, hA, hO, hini⟩ := X
  have hlv : lv_args 0 [.int k, .int n, z] = [(0, .int k), (1, .int n), (2, z)] := by rcases hz with rfl | rfl <;> rfl
  rw [hlv] at S
  refine xe_1_ok (st := []) (r := (.iload_n 0, 1, 0, 0, 0, 0)) X0 (by decide +kernel) rfl ⟨Nat.le_refl _, Nat.le_refl _⟩ S ?_
  intro H1 locs1 ls1 S1
  have e1 : xe_1 3 (.ifCond .lt 8, 3, 9, 0, 0, 0) 1 [(0, .int k), (1, .int n), (2, z)] [.int k] h 0 0 = some (4, [(0, .int k), (1, .int n), (2, z)], [], h, 0, 0) := by
    have hc : xe_c .lt k 0 = false := decide_eq_false h0
    simp [xe_1, xp_i, hc]
  refine xe_1_ok (st := [.int k]) (r := (.ifCond .lt 8, 3, 9, 0, 0, 0)) X0 (by decide +kernel) e1 ⟨Nat.le_refl _, Nat.le_refl _⟩ S1 ?_
  intro H2 locs2 ls2 S2
  refine xe_1_ok (st := []) (r := (.iload_n 0, 1, 0, 0, 0, 0)) X0 (by decide +kernel) rfl ⟨Nat.le_refl _, Nat.le_refl _⟩ S2 ?_
  intro H3 locs3 ls3 S3
  refine xe_1_ok (st := [.int k]) (r := (.iload_n 1, 1, 0, 0, 0, 0)) X0 (by decide +kernel) rfl ⟨Nat.le_refl _, Nat.le_refl _⟩ S3 ?_
  intro H4 locs4 ls4 S4
  have e4 : xe_1 3 (.if_icmp .lt 10, 3, 16, 0, 0, 0) 6 [(0, .int k), (1, .int n), (2, z)] [.int n, .int k] h 0 0 = some (16, [(0, .int k), (1, .int n), (2, z)], [], h, 0, 0) := by
    have hc : xe_c .lt k n = true := decide_eq_true hkn
    simp [xe_1, xp_ii, hc]
  refine xe_1_ok (st := [.int n, .int k]) (r := (.if_icmp .lt 10, 3, 16, 0, 0, 0)) X0 (by decide +kernel) e4 ⟨Nat.le_refl _, Nat.le_refl _⟩ S4 ?_
  intro H5 locs5 ls5 S5
  refine xe_1_ok (st := []) (r := (.iload_n 0, 1, 0, 0, 0, 0)) X0 (by decide +kernel) rfl ⟨Nat.le_refl _, Nat.le_refl _⟩ S5 ?_
  intro H6 locs6 ls6 S6
  exact W.iret hx hb hr (fun t ht hW => ⟨rfl, by rw [ht]; exact S6.1, S6.2.1.F ht⟩) S6.2.1.2.2 (show decode cJ3_checkIndex_8e157 17 = .ok (.ireturn, 1) by decide +kernel) hlk
/-- String.checkIndex, of a good index -/
theorem js_ck0 {k n : Int32} (h0 : ¬ k < 0) (hkn : k < n) (h : xh_H) (sz d : Nat) : js_M l D cy ad sp yJ0_checkIndex_df160 cJ0_checkIndex_df160 2 none [.int k, .int n] h sz (d + 1) none := by
  refine js_met (by decide) (Nat.le_refl 2) ?_
  intro p e s m args below meth c ls A X hr hlk S
  have X0 := X
  obtain ⟨hx, hb, hml, hown, hts, hK, hA, hO, hini⟩ := X
  refine xe_1_ok (st := []) (r := (.iload_n 0, 1, 0, 0, 0, 0)) X0 (by decide +kernel) rfl ⟨Nat.le_refl _, Nat.le_refl _⟩ S ?_
  intro H1 locs1 ls1 S1
  refine xe_1_ok (st := [.int k]) (r := (.iload_n 1, 1, 0, 0, 0, 0)) X0 (by decide +kernel) rfl ⟨Nat.le_refl _, Nat.le_refl _⟩ S1 ?_
  intro H2 locs2 ls2 S2
  have fin : ∀ z : Value, (z = .null ∨ z = .float 12) → W p l e (xm_rm (d + 1) 0 0) s m args below meth c H2 locs2 0 0 (MQ below (xq_Q D cy ad sp none h A) args s 0 0 A) (F0 m 5 ls2 (([z, .int n, .int k] : List Value).map (xh_v ad sp))) := by
    intro z hz
    refine js_callS (As := [.int k, .int n, z]) (q := []) (n := 3) (d := d) X0 S2 (js_ck3 hz h0 hkn h H2.size d) jw_iP jw_c_ck3 jw_t_ck3 jw_l_ck3 (by decide) rfl ⟨Nat.le_refl _, by show 8 + (3 + 11) + 40 * d ≤ 40 * (d + 1); omega⟩ ⟨Nat.le_refl _, Nat.le_refl _⟩ (Nat.le_of_ble_eq_true rfl) (show decode cJ0_checkIndex_df160 5 = .ok (.invokestatic 1059, 3) by decide +kernel) ?_
    intro H3 locs3 S3
    refine xe_1_ok (st := [.int k]) (r := (.pop, 1, 0, 0, 0, 0)) X0 (by decide +kernel) rfl ⟨Nat.le_refl _, Nat.le_refl _⟩ S3 ?_
    intro H4 locs4 ls4 S4
    exact W.vret hx hb hr (fun t ht hW => ⟨rfl, by rw [ht]; exact S4.1, S4.2.1.F ht⟩) S4.2.1.2.2 (show decode cJ0_checkIndex_df160 9 = .ok (.return_, 1) by decide +kernel) hlk
  rcases hO.2.2.2.2.2.2 with hZ | hZ
  · exact va_gets hx hb hZ S2.2.1 hown (hts _ jw_f_fmt) (fun _ h9 => h9) (show decode cJ0_checkIndex_df160 2 = .ok (.getstatic 1053, 3) by decide +kernel) (fin .null (Or.inl rfl))
  · exact va_gets hx hb hZ S2.2.1 hown (hts _ jw_f_fmt) (fun _ h9 => h9) (show decode cJ0_checkIndex_df160 2 = .ok (.getstatic 1053, 3) by decide +kernel) (fin (.float 12) (Or.inr rfl))
theorem js_nar : ∀ i, i < 5 → ∀ k, k < js_lens.getD i 0 → narrow .char (.int (js_ch i k)) = .int (js_ch i k) := by decide +kernel
/-- StringLatin1.charAt -/
theorem js_ch1 {w : UInt32} {k : Int32} {i : Nat} (hi : i < 5) (hw : w.toNat = i + 7) (hk : xe_in k (js_lens.getD i 0) = true) (h : xh_H) (sz d : Nat) : js_M l D cy ad sp yJ1_charAt_3b067 cJ1_charAt_3b067 2 (some .char) [.float w, .int k] h sz (d + 2) (some (.int (js_ch i k.toNatClampNeg))) := by
  obtain ⟨g1, g2⟩ := xw_bb hk
  have h0 : ¬ k < 0 := by
    intro z
    rw [decide_eq_true z] at g1
    cases g1
  have hlt := xw_ble g2
  have hkn : k < js_len i := js_lt hi h0 hlt
  refine js_met (by decide) (Nat.le_refl 2) ?_
  intro p e s m args below meth c ls A X hr hlk S
  have X0 := X
  obtain ⟨hx, hb, hml, hown, hts, hK, hA, hO, hini⟩ := X
  have hT := (hO.2.2.2.2.1.1 i hi).2.2.2
  dsimp only at hT
  rw [← hw] at hT
  refine xe_1_ok (st := []) (r := (.iload_n 1, 1, 0, 0, 0, 0)) X0 (by decide +kernel) rfl ⟨Nat.le_refl _, Nat.le_refl _⟩ S ?_
  intro H1 locs1 ls1 S1
  refine xe_1_ok (st := [.int k]) (r := (.aload_n 0, 1, 0, 0, 0, 0)) X0 (by decide +kernel) rfl ⟨Nat.le_refl _, Nat.le_refl _⟩ S1 ?_
  intro H2 locs2 ls2 S2
  refine va_tlen hx hb hT S2.2.1 (v := js_len i) rfl (show decode cJ1_charAt_3b067 2 = .ok (.arraylength, 1) by decide +kernel) ?_
  refine js_callS (As := [.int k, .int (js_len i)]) (q := []) (n := 2) (d := d + 1) X0 S2 (js_ck0 h0 hkn h H2.size d) jw_iS jw_c_ck0 jw_t_ck0 jw_l_ck0 (by decide) rfl ⟨Nat.le_refl _, by show 8 + (2 + 11) + 40 * (d + 1) ≤ 40 * (d + 2); omega⟩ ⟨Nat.le_refl _, Nat.le_refl _⟩ (Nat.le_of_ble_eq_true rfl) (show decode cJ1_charAt_3b067 3 = .ok (.invokestatic 9, 3) by decide +kernel) ?_
  intro H3 locs3 S3
  refine xe_1_ok (st := []) (r := (.aload_n 0, 1, 0, 0, 0, 0)) X0 (by decide +kernel) rfl ⟨Nat.le_refl _, Nat.le_refl _⟩ S3 ?_
  intro H4 locs4 ls4 S4
  refine xe_1_ok (st := [.float w]) (r := (.iload_n 1, 1, 0, 0, 0, 0)) X0 (by decide +kernel) rfl ⟨Nat.le_refl _, Nat.le_refl _⟩ S4 ?_
  intro H5 locs5 ls5 S5
  refine va_tb hx hb hT S5.2.1 (xe_in_v hk) rfl (show decode cJ1_charAt_3b067 8 = .ok (.baload, 1) by decide +kernel) ?_
  refine xe_1_ok (st := [.int ((js_byts.getD i []).getD k.toNatClampNeg 0)]) (r := (.sipush 255, 3, 0, 0, 0, 0)) X0 (by decide +kernel) rfl ⟨Nat.le_refl _, Nat.le_refl _⟩ S5 ?_
  intro H6 locs6 ls6 S6
  refine xe_1_ok (st := [.int 255, .int ((js_byts.getD i []).getD k.toNatClampNeg 0)]) (r := (.iand, 1, 0, 0, 0, 0)) X0 (by decide +kernel) rfl ⟨Nat.le_refl _, Nat.le_refl _⟩ S6 ?_
  intro H7 locs7 ls7 S7
  refine lv_i2c hx hb (v := js_ch i k.toNatClampNeg) (show decode cJ1_charAt_3b067 13 = .ok (.i2c, 1) by decide +kernel) rfl ?_
  exact W.zret (ty := .char) hx hb hr (js_nar i hi _ hlt) (fun t ht hW => ⟨rfl, by rw [ht]; exact S7.1, S7.2.1.F ht⟩) S7.2.1.2.2 (show decode cJ1_charAt_3b067 14 = .ok (.ireturn, 1) by decide +kernel) hlk
/-- String.charAt -/
theorem js_charAt {u : UInt32} {k : Int32} {i : Nat} (hi : i < 5) (hu : u.toNat = i + 2) (hk : xe_in k (js_lens.getD i 0) = true) (h : xh_H) (sz d : Nat) : js_M l D cy ad sp yJ0_charAt_5068e cJ0_charAt_5068e 2 (some .char) [.float u, .int k] h sz (d + 3) (some (.int (js_ch i k.toNatClampNeg))) := by
  have hlt := xw_ble (xw_bb hk).2
  refine js_met (by decide) (Nat.le_refl 2) ?_
  intro p e s m args below meth c ls A X hr hlk S
  have X0 := X
  obtain ⟨hx, hb, hml, hown, hts, hK, hA, hO, hini⟩ := X
  refine xe_1_ok (st := []) (r := (.aload_n 0, 1, 0, 0, 0, 0)) X0 (by decide +kernel) rfl ⟨Nat.le_refl _, Nat.le_refl _⟩ S ?_
  intro H1 locs1 ls1 S1
  refine js_callV (Bs := []) (q := []) (n := 0) (d := d + 2) X0 S1 hi hu (js_latin hi hu h H1.size (d + 2)) rfl jw_c_lat jw_n_lat jw_s_lat jw_l_lat (by decide) rfl ⟨Nat.le_refl _, by show 8 + (1 + 11) + 40 * (d + 2) ≤ 40 * (d + 3); omega⟩ ⟨Nat.le_refl _, Nat.le_refl _⟩ (Nat.le_of_ble_eq_true rfl) (show decode cJ0_charAt_5068e 1 = .ok (.invokevirtual 492, 3) by decide +kernel) ?_
  intro H2 locs2 S2
  refine xe_1_ok (st := [.int 1]) (r := (.ifCond .eq 12, 3, 16, 0, 0, 0)) X0 (by decide +kernel) rfl ⟨Nat.le_refl _, Nat.le_refl _⟩ S2 ?_
  intro H3 locs3 ls3 S3
  refine xe_1_ok (st := []) (r := (.aload_n 0, 1, 0, 0, 0, 0)) X0 (by decide +kernel) rfl ⟨Nat.le_refl _, Nat.le_refl _⟩ S3 ?_
  intro H4 locs4 ls4 S4
  have hof := (hO.2.2.2.2.1.1 i hi).2.2.1
  dsimp only at hof
  rw [← hu] at hof
  refine vk_getf hx hb hof S4.2.1 hown (hts _ jw_f_val) (fun _ h9 => h9) (show decode cJ0_charAt_5068e 8 = .ok (.getfield 9, 3) by decide +kernel) ?_
  have hw : (UInt32.ofNat (i + 7)).toNat = i + 7 := js_u7 i hi
  have e7 : ([Value.ref (sp (i + 7))] : List Value) = ([Value.float (UInt32.ofNat (i + 7))] : List Value).map (xh_v ad sp) := by
    show [Value.ref (sp (i + 7))] = [Value.ref (sp (UInt32.ofNat (i + 7)).toNat)]
    rw [hw]
  show W p l e (xm_rm (d + 3) 0 0) s m args below meth c H4 locs4 0 0 _ (F0 m 11 ls4 [Value.ref (sp (i + 7))])
  rw [e7]
  refine xe_1_ok (st := [.float (UInt32.ofNat (i + 7))]) (r := (.iload_n 1, 1, 0, 0, 0, 0)) X0 (by decide +kernel) rfl ⟨Nat.le_refl _, Nat.le_refl _⟩ S4 ?_
  intro H5 locs5 ls5 S5
  refine js_callS (As := [.float (UInt32.ofNat (i + 7)), .int k]) (q := []) (n := 2) (d := d + 2) X0 S5 (js_ch1 hi hw hk h H5.size d) jw_iL jw_c_ch1 jw_t_ch1 jw_l_ch1 (by decide) rfl ⟨Nat.le_refl _, by show 8 + (2 + 11) + 40 * (d + 2) ≤ 40 * (d + 3); omega⟩ ⟨Nat.le_refl _, Nat.le_refl _⟩ (Nat.le_of_ble_eq_true rfl) (show decode cJ0_charAt_5068e 12 = .ok (.invokestatic 495, 3) by decide +kernel) ?_
  intro H6 locs6 S6
  exact W.zret (ty := .char) hx hb hr (js_nar i hi _ hlt) (fun t ht hW => ⟨rfl, by rw [ht]; exact S6.1, S6.2.1.F ht⟩) S6.2.1.2.2 (show decode cJ0_charAt_5068e 15 = .ok (.ireturn, 1) by decide +kernel) hlk
end XSTR
