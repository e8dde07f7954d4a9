section XST
theorem xl_arr {args : Array Value} {s : State} {ty : FieldType} (h : (Cond.arrayClass ty).before args s = true) (hp : ∀ C, ty ≠ .object C) : ∃ cA : ClassId, ArrOfT s cA ty ∧ va_RA s cA ty := by
  obtain ⟨cA, kA, comp, h1, h2, h3⟩ := Cond.arrayClass_spec h
  refine ⟨cA, fun n z => ⟨fun k h => (by cases h), kA, h2, comp, h3⟩, ?_⟩
  cases ty with
  | object C => exact absurd rfl (hp C)
  | _ => exact h1
theorem xl_arrq {s : State} (h : va_AO RX7 s) : ∃ cA : ClassId, ArrOfT s cA (.object RX7) ∧ va_RA s cA (.object RX7) := by
  obtain ⟨comp, cA, kA, h1, -, h2, h3, h4⟩ := Cond.arrayOver_spec (show (Cond.arrayOver (.object RX7)).holds #[] s none s [] = true from h)
  exact ⟨cA, fun n z => ⟨fun k h => (by cases h), kA, h2, comp, h3⟩, kA, comp, h2, h3, h1, h4⟩
theorem xl_str {args : Array Value} {s : State} {own : String} {k : Nat} (h : (Cond.exactly (.string own k) "java/lang/String").before args s = true) : ∃ a : Nat, (Term.string own k).eval args s none [] s = some (.ref a) := by
  obtain ⟨a, c, cA, kA, q1, -⟩ := Cond.exactly_spec (args := args) (first := s) (o := none) (s := s) (idx := []) (t := .string own k) (cls := "java/lang/String") h
  exact ⟨a, q1⟩
set_option maxRecDepth 20000 in
theorem xl_eq1 : Jvm.Cond.eq (.string "CarryHouse$Reader" 59) (.string "CarryHouse$Scanner" 75) ∈ flatC (Jvm.Cond.and given_1 narrow_1) := by decide +kernel
set_option maxRecDepth 20000 in
theorem xl_eq2 : Jvm.Cond.eq (.string "CarryHouse$Scanner" 81) (.string "CarryHouse$Reader" 69) ∈ flatC (Jvm.Cond.and given_1 narrow_1) := by decide +kernel
set_option maxRecDepth 20000 in
theorem xl_eq3 : Jvm.Cond.eq (.string "CarryHouse$Scanner" 83) (.string "CarryHouse$Reader" 128) ∈ flatC (Jvm.Cond.and given_1 narrow_1) := by decide +kernel
set_option maxRecDepth 20000 in
theorem xl_eq4 : Jvm.Cond.eq (.string "CarryHouse$Scanner" 85) (.string "CarryHouse$Reader" 123) ∈ flatC (Jvm.Cond.and given_1 narrow_1) := by decide +kernel
set_option maxRecDepth 20000 in
theorem xl_eq5 : Jvm.Cond.eq (.string "CarryHouse$Scanner" 87) (.string "CarryHouse$Reader" 154) ∈ flatC (Jvm.Cond.and given_1 narrow_1) := by decide +kernel
set_option maxRecDepth 20000 in
theorem xl_ex : ∀ q ∈ [("CarryHouse$Reader", 59), ("CarryHouse$Scanner", 81), ("CarryHouse$Scanner", 83), ("CarryHouse$Scanner", 85), ("CarryHouse$Scanner", 87)], Jvm.Cond.exactly (.string q.1 q.2) "java/lang/String" ∈ flatC (Jvm.Cond.and given_1 narrow_1) := by decide +kernel
set_option maxRecDepth 20000 in
theorem xl_fa : Jvm.Cond.arrayOf (.static "CarryHouse$Powers" "FACTORIALS" "[J") .long ∈ flatC (Jvm.Cond.and given_1 narrow_1) := by decide +kernel
set_option maxRecDepth 20000 in
theorem xl_fl : Jvm.Cond.eq (.length (.static "CarryHouse$Powers" "FACTORIALS" "[J")) (.int 13) ∈ flatC (Jvm.Cond.and given_1 narrow_1) := by decide +kernel
set_option maxRecDepth 20000 in
theorem xl_fe : ∀ j, j < 13 → Jvm.Cond.eq (.elem (.static "CarryHouse$Powers" "FACTORIALS" "[J") (.int (Int32.ofNat j))) (.long (xo_f j)) ∈ flatC (Jvm.Cond.and given_1 narrow_1) := by decide +kernel
theorem xl_s0 : Cond.stringRef RX4 59 "body" ∈ lw_tbl := xtb_in (K := 2) (List.mem_of_getElem? (i := 198) (by decide +kernel))
theorem xl_s1 : Cond.stringRef RX6 75 "body" ∈ lw_tbl := xtb_in (K := 3) (List.mem_of_getElem? (i := 24) (by decide +kernel))
theorem xl_s2 : Cond.stringRef RX6 81 "carry" ∈ lw_tbl := xtb_in (K := 3) (List.mem_of_getElem? (i := 26) (by decide +kernel))
theorem xl_s3 : Cond.stringRef RX6 83 "and" ∈ lw_tbl := xtb_in (K := 3) (List.mem_of_getElem? (i := 27) (by decide +kernel))
theorem xl_s4 : Cond.stringRef RX6 85 "or" ∈ lw_tbl := xtb_in (K := 3) (List.mem_of_getElem? (i := 28) (by decide +kernel))
theorem xl_s5 : Cond.stringRef RX6 87 "of" ∈ lw_tbl := xtb_in (K := 3) (List.mem_of_getElem? (i := 29) (by decide +kernel))
theorem xl_s6 : Cond.stringRef RX4 154 "of" ∈ lw_tbl := xtb_in (K := 3) (List.mem_of_getElem? (i := 66) (by decide +kernel))
theorem xl_s7 : Cond.stringRef RX4 128 "and" ∈ lw_tbl := xtb_in (K := 3) (List.mem_of_getElem? (i := 99) (by decide +kernel))
theorem xl_s8 : Cond.stringRef RX4 123 "or" ∈ lw_tbl := xtb_in (K := 3) (List.mem_of_getElem? (i := 100) (by decide +kernel))
theorem xl_s9 : Cond.stringRef RX4 69 "carry" ∈ lw_tbl := xtb_in (K := 3) (List.mem_of_getElem? (i := 101) (by decide +kernel))
theorem xl_ls : Cond.laysStatic RX2 "FACTORIALS" "[J" ∈ lw_tbl := xtb_in (K := 5) (List.mem_of_getElem? (i := 64) (by decide +kernel))
theorem xl_ls2 : Cond.laysStatic RJ0 "COMPACT_STRINGS" "Z" ∈ lw_tbl := xtb_in (K := 2) (List.mem_of_getElem? (i := 212) (by decide +kernel))
theorem xl_ls3 : Cond.laysStatic RJ3 "SIOOBE_FORMATTER" "Ljava/util/function/BiFunction;" ∈ lw_tbl := xtb_in (K := 2) (List.mem_of_getElem? (i := 228) (by decide +kernel))
def xl_tm (i : Nat) : Term := .string ((["CarryHouse$Reader", "CarryHouse$Scanner", "CarryHouse$Scanner", "CarryHouse$Scanner", "CarryHouse$Scanner"] : List String).getD i "") (([59, 81, 83, 85, 87] : List Nat).getD i 0)
set_option maxRecDepth 20000 in
theorem xl_tx : ∀ i, i < 5 → Jvm.Cond.exactly (xl_tm i) "java/lang/String" ∈ flatC (Jvm.Cond.and given_1 narrow_1) := by decide +kernel
set_option maxRecDepth 20000 in
theorem xl_tc : ∀ i, i < 5 → Jvm.Cond.eq (.field (xl_tm i) "java/lang/String" "coder" "B") (.int 0) ∈ flatC (Jvm.Cond.and given_1 narrow_1) := by decide +kernel
set_option maxRecDepth 20000 in
theorem xl_ta : ∀ i, i < 5 → Jvm.Cond.arrayOf (.field (xl_tm i) "java/lang/String" "value" "[B") .byte ∈ flatC (Jvm.Cond.and given_1 narrow_1) := by decide +kernel
set_option maxRecDepth 20000 in
theorem xl_tl : ∀ i, i < 5 → Jvm.Cond.eq (.length (.field (xl_tm i) "java/lang/String" "value" "[B")) (.int (Int32.ofNat (js_lens.getD i 0))) ∈ flatC (Jvm.Cond.and given_1 narrow_1) := by decide +kernel
set_option maxRecDepth 20000 in
theorem xl_te : ∀ i, i < 5 → ∀ j, j < js_lens.getD i 0 → Jvm.Cond.eq (.elem (.field (xl_tm i) "java/lang/String" "value" "[B") (.int (Int32.ofNat j))) (.int ((js_byts.getD i []).getD j 0)) ∈ flatC (Jvm.Cond.and given_1 narrow_1) := by decide +kernel
set_option maxRecDepth 20000 in
theorem xl_tn : ∀ i, i < 5 → ∀ j, j < 5 → i ≠ j → Jvm.Cond.not (Jvm.Cond.eq (xl_tm i) (xl_tm j)) ∈ flatC (Jvm.Cond.and given_1 narrow_1) ∨ Jvm.Cond.not (Jvm.Cond.eq (xl_tm j) (xl_tm i)) ∈ flatC (Jvm.Cond.and given_1 narrow_1) := by decide +kernel
set_option maxRecDepth 20000 in
theorem xl_cs : Jvm.Cond.eq (.static "java/lang/String" "COMPACT_STRINGS" "Z") (.int 1) ∈ flatC (Jvm.Cond.and given_1 narrow_1) := by decide +kernel
set_option maxRecDepth 20000 in
theorem xl_sf : Jvm.Cond.isRef (.static "jdk/internal/util/Preconditions" "SIOOBE_FORMATTER" "Ljava/util/function/BiFunction;") ∈ flatC (Jvm.Cond.and given_1 narrow_1) := by decide +kernel
theorem xl_Sc {N : Nat} {len : List Nat} {byt : List (List Int32)} {aK aV bK bV : Nat → Nat} {A : Nat → Prop} {U : State} {H : Heap} (h : vk_S N len byt aK aV A U H) (e1 : ∀ i, i < N → bK i = aK i) (e2 : ∀ i, i < N → bV i = aV i) : vk_S N len byt bK bV A U H :=
  ⟨fun i hi => (by rw [e1 i hi, e2 i hi]; exact h.1 i hi), fun i j hi hj e => h.2 i j hi hj (by rw [← e1 i hi, ← e1 j hj]; exact e)⟩
def xl_sp (b t : Nat) (aK aV : Nat → Nat) (z : Nat) (k : Nat) : Nat := match k with
  | 0 => b
  | 1 => t
  | j + 2 => cond (Nat.blt j 5) (aK j) (cond (Nat.blt j 10) (aV (j - 5)) z)
theorem xl_sp1 {b t z : Nat} {aK aV : Nat → Nat} : ∀ i, i < 5 → xl_sp b t aK aV z (i + 2) = aK i := by
  intro i hi
  show cond (Nat.blt i 5) (aK i) (cond (Nat.blt i 10) (aV (i - 5)) z) = aK i
  rw [Nat.blt_eq.mpr hi]
  rfl
theorem xl_sp2 {b t z : Nat} {aK aV : Nat → Nat} : ∀ i, i < 5 → xl_sp b t aK aV z (i + 7) = aV i := by
  intro i hi
  show cond (Nat.blt (i + 5) 5) (aK (i + 5)) (cond (Nat.blt (i + 5) 10) (aV (i + 5 - 5)) z) = aV i
  rw [show Nat.blt (i + 5) 5 = false from by rw [Bool.eq_false_iff]; intro q; have := Nat.blt_eq.mp q; omega, Nat.blt_eq.mpr (show i + 5 < 10 by omega), Nat.add_sub_cancel]
  rfl
set_option maxHeartbeats 4000000 in
/-- the law's frame -/
theorem xl_ctx {p : Program} {s : State} {m : MethodId} {meth : Method} {c : Code} {b L : Nat} {xs : Nat → Int32} (C0 : lw_At p s m meth c b L xs) : ∃ (D : va_G) (cy : Nat → ClassId) (sp : Nat → Nat), sp 0 = b ∧ xc_X p s m #[Value.ref b] meth c code 8 RL false D cy (fun q : Nat => s.heap.size ≤ q) sp := by
  obtain ⟨hx, hb, hr, hml, hown, hts, hX, hbl, hlocks, hgv⟩ := id C0
  have hs := flat_of_before _ hgv
  have hG : ∀ w ∈ xG, w.before #[Value.ref b] s = true := fun w hw => hts w (List.mem_filter.mp hw).1
  have kn : ∀ (ci : Nat) (C : String) (T : u_T) (N : Nat), vwCl[ci]? = some (C, T, N) → ∃ (cC : ClassId) (iS : Nat → Nat), u_Kn s C T N cC iS := fun ci C T N hc => by
    obtain ⟨-, k2, -, -, -, k6, -⟩ := xk_ok ci C T N hc
    exact u_known (n := N) hG k2 (hG _ k6)
  have kn2 : ∀ ci : Nat, ∃ q : ClassId × (Nat → Nat), ∀ (C : String) (T : u_T) (N : Nat), vwCl[ci]? = some (C, T, N) → u_Kn s C T N q.1 q.2 := fun ci => by
    cases hc : vwCl[ci]? with
    | none => exact ⟨(0, fun _ => 0), fun C T N h => by cases h⟩
    | some t =>
      obtain ⟨C, T, N⟩ := t
      obtain ⟨cC, iS, h⟩ := kn ci C T N hc
      exact ⟨(cC, iS), fun C' T' N' h' => by cases h'; exact h⟩
  obtain ⟨dd, hdd⟩ := Classical.axiomOfChoice kn2
  have hAO : va_AO RX7 s := va_AO.of (hts _ xk_ov)
  obtain ⟨c1, e1⟩ := xl_arr (hG _ xk_aI) (fun C h => by cases h)
  obtain ⟨c2, e2⟩ := xl_arr (hG _ xk_aB) (fun C h => by cases h)
  obtain ⟨c3, e3⟩ := xl_arr (hG _ xk_aZ) (fun C h => by cases h)
  obtain ⟨c4, e4⟩ := xl_arr (hG _ xk_aJ) (fun C h => by cases h)
  obtain ⟨c5, e5⟩ := xl_arrq hAO
  have hA0 : ∀ a : Nat, a < s.heap.size → ¬ (fun q : Nat => s.heap.size ≤ q) a := fun a h1 h2 => by have h2 : s.heap.size ≤ a := h2; omega
  obtain ⟨t, ht, hT⟩ := va_Tof (f := fun j => .long (xo_f j)) (A := fun q : Nat => s.heap.size ≤ q) (N := 13) (by decide) (hs _ xl_fa) (va_eqt (hs _ xl_fl)) (fun j hj => va_eqtl (hs _ (xl_fe j hj))) hA0
  have hZ := va_Zref (A := fun q : Nat => s.heap.size ≤ q) (hts _ xl_ls) (hG _ xk_n2) ht hA0
  obtain ⟨aK, aV, hSS, hSt⟩ := vk_Sof (N := 5) (tm := xl_tm) (len := js_lens) (byt := js_byts) (A := fun q : Nat => s.heap.size ≤ q) (by decide) (fun i hi => hs _ (xl_tx i hi)) (fun i hi => hs _ (xl_tc i hi)) (fun i hi => hs _ (xl_ta i hi)) (fun i hi => hs _ (xl_tl i hi)) (fun i hi j hj => hs _ (xl_te i hi j hj)) (fun i j hi hj hne => (xl_tn i hi j hj hne).imp (fun z => hs _ z) (fun z => hs _ z)) hA0
  have f0 : (Term.string "CarryHouse$Reader" 59).eval #[Value.ref b] s none [] s = some (.ref (aK 0)) := hSt 0 (by decide)
  have f1 : (Term.string "CarryHouse$Scanner" 81).eval #[Value.ref b] s none [] s = some (.ref (aK 1)) := hSt 1 (by decide)
  have f2 : (Term.string "CarryHouse$Scanner" 83).eval #[Value.ref b] s none [] s = some (.ref (aK 2)) := hSt 2 (by decide)
  have f3 : (Term.string "CarryHouse$Scanner" 85).eval #[Value.ref b] s none [] s = some (.ref (aK 3)) := hSt 3 (by decide)
  have f4 : (Term.string "CarryHouse$Scanner" 87).eval #[Value.ref b] s none [] s = some (.ref (aK 4)) := hSt 4 (by decide)
  have hCS := va_Zof (A := fun q : Nat => s.heap.size ≤ q) (hts _ xl_ls2) (hG _ jw_iS) (va_eqi (hs _ xl_cs)) hA0
  obtain ⟨zf, hSF⟩ : ∃ z : Nat, va_Z "jdk/internal/util/Preconditions" "SIOOBE_FORMATTER" "Ljava/util/function/BiFunction;" .null (fun q : Nat => s.heap.size ≤ q) s s.heap ∨ va_Z "jdk/internal/util/Preconditions" "SIOOBE_FORMATTER" "Ljava/util/function/BiFunction;" (.ref z) (fun q : Nat => s.heap.size ≤ q) s s.heap := by
    rcases va_Zqof (A := fun q : Nat => s.heap.size ≤ q) (hts _ xl_ls3) (hG _ jw_iP) (hs _ xl_sf) hA0 with z | ⟨w, z⟩
    · exact ⟨0, Or.inl z⟩
    · exact ⟨w, Or.inr z⟩
  refine ⟨(fun k => (dd k).1, fun k => (dd k).2), fun k => [0, c1, c2, c3, c4, c5].getD k 0, xl_sp b t aK aV zf, rfl, hx, hb, hml, hown, hG, ⟨fun ci q hq => ?_, fun k q hq => ?_⟩, fun q h => h, ⟨fun k q hq => ?_, hAO, hZ, hT, xl_Sc hSS xl_sp1 xl_sp2, hCS, hSF⟩, fun z => by cases z⟩
  · obtain ⟨C, T, N⟩ := q
    exact hdd ci C T N hq
  · match k, hq with
    | 0, hq => cases hq; exact e1
    | 1, hq => cases hq; exact e2
    | 2, hq => cases hq; exact e3
    | 3, hq => cases hq; exact e4
    | 4, hq => cases hq; exact e5
    | k + 5, hq => simp [xh_ts] at hq
  · match k, hq with
    | 0, hq => cases hq; exact vk_R.of (hts _ xl_s0) f0
    | 1, hq => cases hq; exact vk_R.of (hts _ xl_s1) (va_eqR (hs _ xl_eq1) f0)
    | 2, hq => cases hq; exact vk_R.of (hts _ xl_s2) f1
    | 3, hq => cases hq; exact vk_R.of (hts _ xl_s3) f2
    | 4, hq => cases hq; exact vk_R.of (hts _ xl_s4) f3
    | 5, hq => cases hq; exact vk_R.of (hts _ xl_s5) f4
    | 6, hq => cases hq; exact vk_R.of (hts _ xl_s6) (va_eqR (hs _ xl_eq5) f4)
    | 7, hq => cases hq; exact vk_R.of (hts _ xl_s7) (va_eqR (hs _ xl_eq3) f2)
    | 8, hq => cases hq; exact vk_R.of (hts _ xl_s8) (va_eqR (hs _ xl_eq4) f3)
    | 9, hq => cases hq; exact vk_R.of (hts _ xl_s9) (va_eqR (hs _ xl_eq2) f1)
    | k + 10, hq => simp [xo_s] at hq
set_option maxHeartbeats 4000000 in
/-- THE LAW OUT OF A RUN: what a proof of the claim has to show of our machine alone -/
theorem xl_go {p : Program} {e : Env} {s : State} {m : MethodId} {below : List Frame} {meth : Method} {c : Code} (l : Launch) {b L : Nat} {xs : Nat → Int32} (C0 : lw_At p s m meth c b L xs) (hrun : ∃ (f d : Nat) (h' : xh_H) (c' s' : Nat), d ≤ 2048 ∧ c' ≤ 601024 ∧ s' ≤ 7293034 ∧ xe_x xM xC (some (L, xs)) f d xi_L_law xmi_L_law (0, [(0, .float 0)], [], ([], [], [], []), 0, 0) = some (some (.int 1), h', c', s')) : W p l e room_1 s m #[Value.ref b] below meth c s.heap [] 0 0 (lw_Z below #[Value.ref b] s) (entryFrame m ([Value.ref b] : List Value).toArray 8) := by
  obtain ⟨f, d, h', c', s', hd, hc, hs, he⟩ := hrun
  obtain ⟨D, cy, sp, hsp, X⟩ := xl_ctx C0
  obtain ⟨hx, hb, hr, hml, hown, hts, hX, hbl, hlocks, hgv⟩ := id C0
  have hl := lv_entry ([.ref b]) (n := 8) (Nat.le_of_ble_eq_true rfl)
  rw [lg_entry_eq]
  refine xS f p l e room_1 s m _ below meth c s.heap [] _ _ D (fun q : Nat => s.heap.size ≤ q) (fun k => s.heap.size + k) sp cy (some (L, xs)) d xi_L_law xmi_L_law 0 [(0, .float 0)] [] ([], [], [], []) 0 0 (some (.int 1)) h' c' s' he rfl X ⟨hd, ?_, hc, hs⟩ ?_ ⟨⟨fun k q h => by simp [xh_ws] at h, ⟨fun i j p q h => by simp [xh_ws] at h, fun k q h => by simp [xh_ws] at h⟩, fun j => ?_⟩, va_S.rf, ?_⟩ ?_
  · show 40 * d ≤ 84000
    omega
  · intro L' xs' z
    cases z
    rw [hsp]
    exact ⟨hX, hbl, Nat.not_le.mpr hbl⟩
  · show s.heap.size + (0 + j) = s.heap.size + j
    rw [Nat.zero_add]
  · have e0 : xl_m (fun k => s.heap.size + k) sp [(0, .float 0)] = [(0, .ref b)] := by
      show [(0, Value.ref (sp 0))] = [(0, Value.ref b)]
      rw [hsp]
    rw [e0]
    exact hl
  · intro H1 locs1 ls1 lv1 pc1 ri st1 S1 hd1 hrv
    have hst : st1 = [.int 1] ∧ ri = .ireturn := by
      unfold xe_rv at hrv
      repeat' split at hrv
      all_goals first
        | (cases hrv; done)
        | (cases hrv; exact ⟨rfl, rfl⟩)
        | (obtain ⟨_, h2⟩ := xw_c hrv; cases h2; exact ⟨rfl, rfl⟩)
    obtain ⟨rfl, rfl⟩ := hst
    refine va_forget S1.2.1.2.2 ?_
    refine W.widen hc hs ?_
    exact lw_ret hx hb hr hlocks hd1
end XST
