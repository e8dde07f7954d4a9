section XWS
set_option maxRecDepth 20000 in
theorem ws_u : Jvm.Cond.isRef (.static "java/lang/Throwable" "UNASSIGNED_STACK" "[Ljava/lang/StackTraceElement;") ∈ flatC (Jvm.Cond.and given_1 narrow_1) := by decide +kernel
set_option maxRecDepth 20000 in
theorem ws_s : Jvm.Cond.isRef (.static "java/lang/Throwable" "SUPPRESSED_SENTINEL" "Ljava/util/List;") ∈ flatC (Jvm.Cond.and given_1 narrow_1) := by decide +kernel
theorem ws_lu : Cond.laysStatic Bundle.tN "UNASSIGNED_STACK" Bundle.steD ∈ lw_tbl := xtb_in (K := 5) (List.mem_of_getElem? (i := 21) (by decide +kernel))
theorem ws_ls : Cond.laysStatic Bundle.tN "SUPPRESSED_SENTINEL" Bundle.listD ∈ lw_tbl := xtb_in (K := 5) (List.mem_of_getElem? (i := 23) (by decide +kernel))
theorem ws_ti : Cond.initialized Bundle.tN ∈ lw_tbl := xtb_in (K := 1) (List.mem_of_getElem? (i := 18) (by decide +kernel))
theorem ws_b : ∀ w ∈ sh_b, w ∈ lw_tbl := by
  intro w hw
  unfold sh_b at hw
  simp only [List.mem_cons, List.not_mem_nil, or_false] at hw
  rcases hw with rfl | rfl | rfl | rfl
  · exact xtb_in (K := 4) (List.mem_of_getElem? (i := 237) (by decide +kernel))
  · exact xtb_in (K := 4) (List.mem_of_getElem? (i := 239) (by decide +kernel))
  · exact xtb_in (K := 5) (List.mem_of_getElem? (i := 1) (by decide +kernel))
  · exact xtb_in (K := 4) (List.mem_of_getElem? (i := 236) (by decide +kernel))
theorem ws_U {p : Program} {s : State} {m : MethodId} {meth : Method} {c : Code} {b L : Nat} {xs : Nat → Int32} (C0 : lw_At p s m meth c b L xs) : sh_U (fun q : Nat => s.heap.size ≤ q) s := by
  obtain ⟨hx, hb, hr, hml, hown, hts, hX, hbl, hlocks, hgv⟩ := id C0
  have hs := flat_of_before _ hgv
  have hA0 : ∀ a : Nat, a < s.heap.size → ¬ (fun q : Nat => s.heap.size ≤ q) a := fun a h1 h2 => by have h2 : s.heap.size ≤ a := h2; omega
  exact ⟨vx_Zqof (hts _ ws_lu) (hts _ ws_ti) (hs _ ws_u) hA0, vx_Zqof (hts _ ws_ls) (hts _ ws_ti) (hs _ ws_s) hA0, fun w hw => va_tabs (sh_bt w hw) rfl (hts w (ws_b w hw))⟩
set_option maxRecDepth 100000 in
set_option maxHeartbeats 8000000 in
/-- the law's end, out of a run on the machine -/
theorem ws_end {p : Program} {l : Launch} {e : Env} {s : State} {m : MethodId} {below : List Frame} {meth : Method} {c : Code} {b : Nat} {xs : Nat → Int32} {D : va_G} {cy : Nat → ClassId} {ad sp : Nat → Nat} {H : Heap} {locs : List Loc} {ls : Array Slot} {pc : Nat} {lv : List (Nat × Value)} {st : List Value} {h h' : xh_H} {cc ss : Nat} (C0 : lw_At p s m meth c b 6 xs) (hsp : sp 0 = b) (X : xc_X p s m #[Value.ref b] meth c code 8 RL false D cy (fun q : Nat => s.heap.size ≤ q) sp) (S : xc_S D cy ad sp (fun q : Nat => s.heap.size ≤ q) s 8 h lv H locs ls) (hr : xR (some (6, xs)) 12 xi_L_law xmi_L_law (pc, lv, st, h, cc, ss) (some (.int 1), h', cc, ss)) (hc : cc ≤ 600002) (hs : ss ≤ 7302232) : W p l e room_1 s m #[Value.ref b] below meth c H locs cc ss (lw_Z below #[Value.ref b] s) (F0 m pc ls (st.map (xh_v ad sp))) := by
  obtain ⟨f, he⟩ := hr
  obtain ⟨hx, hb, hr, hml, hown, hts, hX, hbl, hlocks, hgv⟩ := id C0
  refine xS f p l e room_1 s m _ below meth c H locs _ ls D (fun q : Nat => s.heap.size ≤ q) ad sp cy (some (6, xs)) 12 xi_L_law xmi_L_law pc lv st h cc ss (some (.int 1)) h' cc ss he rfl X ⟨by decide, by decide, hc, hs⟩ ?_ S ?_
  · intro L' xs' z
    cases z
    rw [hsp]
    exact ⟨hX, hbl, Nat.not_le.mpr hbl⟩
  · intro H1 locs1 ls1 lv1 pc1 ri st1 S1 hd1 hrv
    have hst : st1 = [.int 1] ∧ ri = .ireturn := by
      unfold xe_rv at hrv
      repeat' split at hrv
      all_goals first
        | (cases hrv; done)
        | (cases hrv; exact ⟨rfl, rfl⟩)
        | (obtain ⟨_, h2⟩ := xw_c hrv; cases h2; exact ⟨rfl, rfl⟩)
    obtain ⟨rfl, rfl⟩ := hst
    refine va_forget S1.2.1.2.2 ?_
    refine W.widen hc hs ?_
    exact lw_ret hx hb hr hlocks hd1
set_option maxRecDepth 100000 in
set_option maxHeartbeats 8000000 in
theorem ws_share {p : Program} {e : Env} {s : State} {m : MethodId} {below : List Frame} {meth : Method} {c : Code} (l : Launch) (hl : l.stackTraces = false) {b : Nat} {xs : Nat → Int32} (C0 : lw_At p s m meth c b 6 xs) (hk : xs 0 &&& 31 = 11) : W p l e room_1 s m #[Value.ref b] below meth c s.heap [] 0 0 (lw_Z below #[Value.ref b] s) (entryFrame m ([Value.ref b] : List Value).toArray 8) := by
  obtain ⟨D, cy, sp, hsp, X⟩ := xl_ctx C0
  have hU := ws_U C0
  obtain ⟨hx, hb, hr, hml, hown, hts, hX, hbl, hlocks, hgv⟩ := id C0
  have hl0 := lv_entry ([.ref b]) (n := 8) (Nat.le_of_ble_eq_true rfl)
  have hscr : ∀ (L' : Nat) (xs' : Nat → Int32), some ((6 : Nat), xs) = some (L', xs') → va_X (sp 0) L' xs' s s.heap ∧ sp 0 < s.heap.size ∧ ¬ (fun q : Nat => s.heap.size ≤ q) (sp 0) := by
    intro L' xs' z
    cases z
    rw [hsp]
    exact ⟨hX, hbl, Nat.not_le.mpr hbl⟩
  have hR : 12 ≤ room_1.frames ∧ 40 * 12 ≤ room_1.locals ∧ 72 ≤ room_1.cells ∧ 274345 ≤ room_1.slots := by decide
  rw [lg_entry_eq]
  refine xS_u xP (scr := none) (mid := xi_L_law) (mi := xmi_L_law) rfl X (ad := fun k => s.heap.size + k) (fun L xs z => by cases z) 3000 12 0 [(0, .float 0)] [] ([], [], [], []) 0 0 23 xf_lv [] xf_h 72 274345 _ _ _ (xu_b_ok xf_pre) hR ⟨⟨fun k q h => by simp [xh_ws] at h, ⟨fun i j p q h => by simp [xh_ws] at h, fun k q h => by simp [xh_ws] at h⟩, fun j => ?_⟩, va_S.rf, ?_⟩ ?_
  · show s.heap.size + (0 + j) = s.heap.size + j
    rw [Nat.zero_add]
  · have e0 : xl_m (fun k => s.heap.size + k) sp [(0, .float 0)] = [(0, .ref b)] := by
      show [(0, Value.ref (sp 0))] = [(0, Value.ref b)]
      rw [hsp]
    rw [e0]
    exact hl0
  intro H1 locs1 ls1 S1
  refine xS_u xP (scr := some (6, xs)) (mid := xi_L_law) (mi := xmi_L_law) rfl X (stop := 40) hscr 40 12 23 xf_lv [] xf_h 72 274345 40 xf_lv [.int (xs 0 &&& 31)] xf_h 72 274345 _ _ _ rfl hR S1 ?_
  intro H2 locs2 ls2 S2
  rw [hk]
  refine xS_u xP (scr := some (6, xs)) (mid := xi_L_law) (mi := xmi_L_law) rfl X (stop := 535) hscr 40 12 40 xf_lv [.int 11] xf_h 72 274345 535 xf_lv [.ref 71, .int (xs 3), .int (xs 2), .int (xs 1), .ref 0] xf_h 72 274345 _ _ _ rfl hR S2 ?_
  intro H3 locs3 ls3 S3
  by_cases hv : sv_ok (xs 1) (xs 2) (xs 3)
  · have good : ∀ (a b2 d : Int32) (v : Int64), xs 1 = a → xs 2 = b2 → xs 3 = d → xR none 11 xi_X9_share xmi_X9_share (0, lv_args 0 [.ref 0, .int a, .int b2, .int d], [], xf_h, 0, 0) (some (.long v), xf_p, 0, 0) → (∃ h', xR (some (6, xs)) 12 xi_L_law xmi_L_law (538, xf_lv, [.int 0], xh_ul xf_p 71 0 v, 72, 274345) (some (.int 1), h', 72, 274345)) → W p l e room_1 s m #[Value.ref b] below meth c H3 locs3 72 274345 (lw_Z below #[Value.ref b] s) (F0 m 535 ls3 (([.ref 71, .int (xs 3), .int (xs 2), .int (xs 1), .ref 0] : List Value).map (xh_v (fun k => s.heap.size + k) sp))) := by
      intro a b2 d v h1 h2 h3 ⟨f, hf⟩ ⟨h', hr'⟩
      rw [h1, h2, h3]
      refine sh_lawR X hf rfl S3 (by decide) (by decide) ?_
      intro H4 locs4 S4
      exact ws_end C0 hsp X S4 hr' (by decide) (by decide)
    obtain ⟨v1, v2, v3, v4, v5, v6⟩ := hv
    obtain ⟨i, hi, hi2⟩ := vp_in_of (x := xs 1) (n := 3) (vp_in_iff.mpr ⟨by omega, by omega⟩) (by decide)
    obtain ⟨j, hj, hj2⟩ := vp_in_of (x := xs 2) (n := 3) (vp_in_iff.mpr ⟨by omega, by omega⟩) (by decide)
    obtain ⟨k, hk1, hk2⟩ := vp_in_of (x := xs 3) (n := 2) (vp_in_iff.mpr ⟨by omega, by omega⟩) (by decide)
    match i, hi, hi2, j, hj, hj2, k, hk1, hk2 with
    | 0, _, h1, 0, _, h2, 0, _, h3 => exact good 0 0 0 1 h1 h2 h3 cs_000 (lg_000 xs h1 h2 h3)
    | 0, _, h1, 0, _, h2, 1, _, h3 => exact good 0 0 1 3 h1 h2 h3 cs_001 (lg_001 xs h1 h2 h3)
    | 0, _, h1, 1, _, h2, 0, _, h3 => exact good 0 1 0 1 h1 h2 h3 cs_010 (lg_010 xs h1 h2 h3)
    | 0, _, h1, 1, _, h2, 1, _, h3 => exact good 0 1 1 3 h1 h2 h3 cs_011 (lg_011 xs h1 h2 h3)
    | 0, _, h1, 2, _, h2, 0, _, h3 => exact good 0 2 0 1 h1 h2 h3 cs_020 (lg_020 xs h1 h2 h3)
    | 0, _, h1, 2, _, h2, 1, _, h3 => exact good 0 2 1 3 h1 h2 h3 cs_021 (lg_021 xs h1 h2 h3)
    | 1, _, h1, 0, _, h2, 0, _, h3 => exact good 1 0 0 1 h1 h2 h3 cs_100 (lg_100 xs h1 h2 h3)
    | 1, _, h1, 0, _, h2, 1, _, h3 => exact good 1 0 1 3 h1 h2 h3 cs_101 (lg_101 xs h1 h2 h3)
    | 1, _, h1, 1, _, h2, 0, _, h3 => exact good 1 1 0 1 h1 h2 h3 cs_110 (lg_110 xs h1 h2 h3)
    | 1, _, h1, 1, _, h2, 1, _, h3 => exact good 1 1 1 3 h1 h2 h3 cs_111 (lg_111 xs h1 h2 h3)
    | 1, _, h1, 2, _, h2, 0, _, h3 => exact good 1 2 0 1 h1 h2 h3 cs_120 (lg_120 xs h1 h2 h3)
    | 1, _, h1, 2, _, h2, 1, _, h3 => exact good 1 2 1 3 h1 h2 h3 cs_121 (lg_121 xs h1 h2 h3)
    | 2, _, h1, 0, _, h2, 0, _, h3 => exact good 2 0 0 1 h1 h2 h3 cs_200 (lg_200 xs h1 h2 h3)
    | 2, _, h1, 0, _, h2, 1, _, h3 => exact good 2 0 1 3 h1 h2 h3 cs_201 (lg_201 xs h1 h2 h3)
    | 2, _, h1, 1, _, h2, 0, _, h3 => exact good 2 1 0 1 h1 h2 h3 cs_210 (lg_210 xs h1 h2 h3)
    | 2, _, h1, 1, _, h2, 1, _, h3 => exact good 2 1 1 3 h1 h2 h3 cs_211 (lg_211 xs h1 h2 h3)
    | 2, _, h1, 2, _, h2, 0, _, h3 => exact good 2 2 0 1 h1 h2 h3 cs_220 (lg_220 xs h1 h2 h3)
    | 2, _, h1, 2, _, h2, 1, _, h3 => exact good 2 2 1 3 h1 h2 h3 cs_221 (lg_221 xs h1 h2 h3)
  · obtain ⟨f, hf⟩ := cs_bad (xs 1) (xs 2) (xs 3) hv
    refine sh_lawT X hU hl hf S3 (by decide) (by decide) ?_
    intro H4 locs4 ad4 S4
    exact ws_end C0 hsp X S4 (lw_bad xs hv) (by decide) (by decide)
/-- from the entry, for every script of at most 6 ints, the law comes to its end with true -/
theorem whole_start {p : Program} {e : Env} {s : State} {m : MethodId} {below : List Frame} {meth : Method} {c : Code} (l : Launch) (hl : l.stackTraces = false) {b L : Nat} {xs : Nat → Int32} (hL : L ≤ 6) (C0 : lw_At p s m meth c b L xs) : W p l e room_1 s m #[Value.ref b] below meth c s.heap [] 0 0 (lw_Z below #[Value.ref b] s) (entryFrame m ([Value.ref b] : List Value).toArray 8) := by
  by_cases hk : L = 6 ∧ xs 0 &&& 31 = 11
  · obtain ⟨rfl, hk⟩ := hk
    exact ws_share l hl C0 hk
  · obtain ⟨h2, c2, s2, a, b2, f, hf⟩ := p1_run op_21 L xs hL (fun h1 h2 => hk ⟨h1, h2⟩)
    exact xl_go l C0 ⟨f, 12, h2, c2, s2, by decide, a, b2, hf⟩
end XWS
