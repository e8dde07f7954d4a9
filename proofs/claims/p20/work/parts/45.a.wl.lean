section XWS
set_option maxRecDepth 20000 in
theorem ws_u : Jvm.Cond.isRef (.static "java/lang/Throwable" "UNASSIGNED_STACK" "[Ljava/lang/StackTraceElement;") ∈ flatC (Jvm.Cond.and given_1 narrow_1) := by decide +kernel
set_option maxRecDepth 20000 in
theorem ws_s : Jvm.Cond.isRef (.static "java/lang/Throwable" "SUPPRESSED_SENTINEL" "Ljava/util/List;") ∈ flatC (Jvm.Cond.and given_1 narrow_1) := by decide +kernel
theorem ws_lu : Cond.laysStatic Bundle.tN "UNASSIGNED_STACK" Bundle.steD ∈ lw_tbl := xtb_in (K := 5) (List.mem_of_getElem? (i := 21) (by decide +kernel))
theorem ws_ls : Cond.laysStatic Bundle.tN "SUPPRESSED_SENTINEL" Bundle.listD ∈ lw_tbl := xtb_in (K := 5) (List.mem_of_getElem? (i := 23) (by decide +kernel))
theorem ws_ti : Cond.initialized Bundle.tN ∈ lw_tbl := xtb_in (K := 1) (List.mem_of_getElem? (i := 18) (by decide +kernel))
theorem ws_b : ∀ w ∈ sh_b, w ∈ lw_tbl := by
  intro w hw
  unfold sh_b at hw
  simp only [List.mem_cons, List.not_mem_nil, or_false] at hw
  rcases hw with rfl | rfl | rfl | rfl
  · exact xtb_in (K := 4) (List.mem_of_getElem? (i := 237) (by decide +kernel))
  · exact xtb_in (K := 4) (List.mem_of_getElem? (i := 239) (by decide +kernel))
  · exact xtb_in (K := 5) (List.mem_of_getElem? (i := 1) (by decide +kernel))
  · exact xtb_in (K := 4) (List.mem_of_getElem? (i := 236) (by decide +kernel))
theorem ws_U {p : Program} {s : State} {m : MethodId} {meth : Method} {c : Code} {b L : Nat} {xs : Nat → Int32} (C0 : lw_At p s m meth c b L xs) : sh_U (fun q : Nat => s.heap.size ≤ q) s := by
  obtain ⟨hx, hb, hr, hml, hown, hts, hX, hbl, hlocks, hgv⟩ := id C0
  have hs := flat_of_before _ hgv
  have hA0 : ∀ a : Nat, a < s.heap.size → ¬ (fun q : Nat => s.heap.size ≤ q) a := fun a h1 h2 => by have h2 : s.heap.size ≤ a := h2; omega
  exact ⟨vx_Zqof (hts _ ws_lu) (hts _ ws_ti) (hs _ ws_u) hA0, vx_Zqof (hts _ ws_ls) (hts _ ws_ti) (hs _ ws_s) hA0, fun w hw => va_tabs (sh_bt w hw) rfl (hts w (ws_b w hw))⟩
set_option maxRecDepth 100000 in
set_option maxHeartbeats 8000000 in
/-- the law's end, out of a run on the machine -/
theorem ws_end {p : Program} {l : Launch} {e : Env} {s : State} {m : MethodId} {below : List Frame} {meth : Method} {c : Code} {b L : Nat} {xs : Nat → Int32} {D : va_G} {cy : Nat → ClassId} {ad sp : Nat → Nat} {H : Heap} {locs : List Loc} {ls : Array Slot} {pc : Nat} {lv : List (Nat × Value)} {st : List Value} {h h' : xh_H} {cc ss : Nat} (C0 : lw_At p s m meth c b L xs) (hsp : sp 0 = b) (X : xc_X p s m #[Value.ref b] meth c code 8 RL false D cy (fun q : Nat => s.heap.size ≤ q) sp) (S : xc_S D cy ad sp (fun q : Nat => s.heap.size ≤ q) s 8 h lv H locs ls) (hr : xR (some (L, xs)) 50 xi_L_law xmi_L_law (pc, lv, st, h, cc, ss) (some (.int 1), h', cc, ss)) (hc : cc ≤ 601024) (hs : ss ≤ 7293034) : W p l e room_1 s m #[Value.ref b] below meth c H locs cc ss (lw_Z below #[Value.ref b] s) (F0 m pc ls (st.map (xh_v ad sp))) := by
  obtain ⟨f, he⟩ := hr
  obtain ⟨hx, hb, hr, hml, hown, hts, hX, hbl, hlocks, hgv⟩ := id C0
  refine xS f p l e room_1 s m _ below meth c H locs _ ls D (fun q : Nat => s.heap.size ≤ q) ad sp cy (some (L, xs)) 50 xi_L_law xmi_L_law pc lv st h cc ss (some (.int 1)) h' cc ss he rfl X ⟨by decide, by decide, hc, hs⟩ ?_ S ?_
  · intro L' xs' z
    cases z
    rw [hsp]
    exact ⟨hX, hbl, Nat.not_le.mpr hbl⟩
  · intro H1 locs1 ls1 lv1 pc1 ri st1 S1 hd1 hrv
    have hst : st1 = [.int 1] ∧ ri = .ireturn := by
      unfold xe_rv at hrv
      repeat' split at hrv
      all_goals first
        | (cases hrv; done)
        | (cases hrv; exact ⟨rfl, rfl⟩)
        | (obtain ⟨_, h2⟩ := xw_c hrv; cases h2; exact ⟨rfl, rfl⟩)
    obtain ⟨rfl, rfl⟩ := hst
    refine va_forget S1.2.1.2.2 ?_
    refine W.widen hc hs ?_
    exact lw_ret hx hb hr hlocks hd1
set_option maxRecDepth 100000 in
set_option maxHeartbeats 8000000 in
/-- the law's loop, on the machine -/
theorem wl_loop {p : Program} {e : Env} {s : State} {m : MethodId} {below : List Frame} {meth : Method} {c : Code} (l : Launch) (hl : l.stackTraces = false) {b L : Nat} {xs : Nat → Int32} {D : va_G} {cy : Nat → ClassId} {sp : Nat → Nat} (C0 : lw_At p s m meth c b L xs) (hsp : sp 0 = b) (hL : L ≤ 3072) (X : xc_X p s m #[Value.ref b] meth c code 8 RL false D cy (fun q : Nat => s.heap.size ≤ q) sp) (hU : sh_U (fun q : Nat => s.heap.size ≤ q) s) : ∀ (n i : Nat) (h : xh_H) (cc ss : Nat) (ad : Nat → Nat) (H : Heap) (locs : List Loc) (ls : Array Slot), L < i + 6 * n → i ≤ 3072 → lc_I h → cc ≤ 72 + 2 * i → ss ≤ 274345 + 66 * i → xc_S D cy ad sp (fun q : Nat => s.heap.size ≤ q) s 8 h (lc_v i) H locs ls → W p l e room_1 s m #[Value.ref b] below meth c H locs cc ss (lw_Z below #[Value.ref b] s) (F0 m 23 ls (([] : List Value).map (xh_v ad sp))) := by
  obtain ⟨hx, hb, hr, hml, hown, hts, hX, hbl, hlocks, hgv⟩ := id C0
  have hscr : ∀ (L' : Nat) (xs' : Nat → Int32), some (L, xs) = some (L', xs') → va_X (sp 0) L' xs' s s.heap ∧ sp 0 < s.heap.size ∧ ¬ (fun q : Nat => s.heap.size ≤ q) (sp 0) := by
    intro L' xs' z
    cases z
    rw [hsp]
    exact ⟨hX, hbl, Nat.not_le.mpr hbl⟩
  have hR : ∀ c s, c ≤ 601024 → s ≤ 7293034 → 50 ≤ room_1.frames ∧ 40 * 50 ≤ room_1.locals ∧ c ≤ room_1.cells ∧ s ≤ room_1.slots := fun c s h1 h2 => ⟨by decide, by decide, h1, h2⟩
  intro n
  induction n with
  | zero =>
    intro i h cc ss ad H locs ls hn hi I hc hs S
    obtain ⟨f, hf⟩ := ld_end (L := L) (i := i) (xs := xs) (h := h) (c := cc) (s := ss) hL (by omega) (by omega)
    refine xS_u xP (scr := some (L, xs)) (mid := xi_L_law) (mi := xmi_L_law) rfl X hscr f 50 23 (lc_v i) [] h cc ss 1005 (lc_v i) [] h cc ss _ _ _ hf (hR _ _ (by omega) (by omega)) S ?_
    intro H1 locs1 ls1 S1
    exact ws_end C0 hsp X S1 (h' := h) (xR_of (f := 3) rfl) (by omega) (by omega)
  | succ n ih =>
    intro i h cc ss ad H locs ls hn hi I hc hs S
    by_cases hi6 : i + 6 ≤ L
    · have nx : ∀ (h' : xh_H) (c' s' : Nat) (ad : Nat → Nat) (H1 : Heap) (locs1 : List Loc) (ls1 : Array Slot), lc_I h' → c' ≤ cc + 2 → s' ≤ ss + 66 → xc_S D cy ad sp (fun q : Nat => s.heap.size ≤ q) s 8 h' (lc_v i) H1 locs1 ls1 → W p l e room_1 s m #[Value.ref b] below meth c H1 locs1 c' s' (lw_Z below #[Value.ref b] s) (F0 m 999 ls1 (([] : List Value).map (xh_v ad sp))) := by
        intro h' c' s' ad H1 locs1 ls1 I' hc' hs' S1
        have r : xV (some (L, xs)) 23 50 xi_L_law xmi_L_law (999, lc_v i, [], h', c', s') (23, lc_v (i + 6), [], h', c', s') := by
          have e6 : nI i + Int32.ofInt 6 = nI (i + 6) := nI_add i 6
          refine xV_step (o1 := (1002, lc_v (i + 6), [], h', c', s')) rfl rfl rfl ?_ ?_
          · show some (999 + 3, (4, Value.int (nI i + Int32.ofInt 6)) :: [(3, Value.ref 71), (2, Value.ref 39), (1, Value.ref 0), (0, Value.float 0)], [], h', c', s') = _
            rw [e6]
            rfl
          · refine xV_step (o1 := (23, lc_v (i + 6), [], h', c', s')) rfl rfl rfl rfl ?_
            exact xV_stop
        obtain ⟨f, hf⟩ := r
        refine xS_u xP (scr := some (L, xs)) (mid := xi_L_law) (mi := xmi_L_law) rfl X hscr f 50 999 (lc_v i) [] h' c' s' 23 (lc_v (i + 6)) [] h' c' s' _ _ _ hf (hR _ _ (by omega) (by omega)) S1 ?_
        intro H2 locs2 ls2 S2
        exact ih (i + 6) h' c' s' ad H2 locs2 ls2 (by omega) (by omega) I' (by omega) (by omega) S2
      by_cases hk : xs i &&& 31 = 11
      · have sh : ∀ (x : Int32) (h1 : xh_H) (c1 s1 : Nat) (ad : Nat → Nat) (H4 : Heap) (locs4 : List Loc) (ls4 : Array Slot), lc_I h1 → c1 ≤ cc + 2 → s1 ≤ ss + 66 → xc_S D cy ad sp (fun q : Nat => s.heap.size ≤ q) s 8 h1 (lc_v i) H4 locs4 ls4 → W p l e room_1 s m #[Value.ref b] below meth c H4 locs4 c1 s1 (lw_Z below #[Value.ref b] s) (F0 m 538 ls4 (([.int x] : List Value).map (xh_v ad sp))) := by
          intro x h1 c1 s1 ad H4 locs4 ls4 I1 hc1 hs1 S4
          refine xS_u xP (scr := some (L, xs)) (mid := xi_L_law) (mi := xmi_L_law) rfl X (stop := 540) hscr 2 50 538 (lc_v i) [.int x] h1 c1 s1 540 ((5, .int x) :: lc_v i) [] h1 c1 s1 _ _ _ rfl (hR _ _ (by omega) (by omega)) S4 ?_
          intro H5 locs5 ls5 S5
          have S5' : xc_S D cy ad sp (fun q : Nat => s.heap.size ≤ q) s 8 h1 (lc_v i) H5 locs5 ls5 := ⟨S5.1, S5.2.1, lv_sub S5.2.2 [1, 2, 3, 4, 5] rfl⟩
          obtain ⟨y, h2, ⟨f2, hf2⟩, I2⟩ := lo_11b (L := L) (i := i) (xs := xs) (h := h1) (c := c1) (s := s1) hL hi6 I1
          refine xS_u xP (scr := some (L, xs)) (mid := xi_L_law) (mi := xmi_L_law) rfl X (stop := 562) hscr f2 50 540 (lc_v i) [] h1 c1 s1 562 (lc_v i) [.long y] h2 c1 s1 _ _ _ hf2 (hR _ _ (by omega) (by omega)) S5' ?_
          intro H6 locs6 ls6 S6
          refine xS_u xP (scr := some (L, xs)) (mid := xi_L_law) (mi := xmi_L_law) rfl X (stop := 564) hscr 2 50 562 (lc_v i) [.long y] h2 c1 s1 564 ((6, .long y) :: lc_v i) [] h2 c1 s1 _ _ _ rfl (hR _ _ (by omega) (by omega)) S6 ?_
          intro H7 locs7 ls7 S7
          have S7' : xc_S D cy ad sp (fun q : Nat => s.heap.size ≤ q) s 8 h2 (lc_v i) H7 locs7 ls7 := ⟨S7.1, S7.2.1, lv_sub S7.2.2 [1, 2, 3, 4, 5] rfl⟩
          refine xS_u xP (scr := some (L, xs)) (mid := xi_L_law) (mi := xmi_L_law) rfl X (stop := 999) hscr 2 50 564 (lc_v i) [] h2 c1 s1 999 (lc_v i) [] h2 c1 s1 _ _ _ rfl (hR _ _ (by omega) (by omega)) S7' ?_
          intro H8 locs8 ls8 S8
          exact nx h2 c1 s1 ad H8 locs8 ls8 I2 hc1 hs1 S8
        obtain ⟨f, hf⟩ := lo_11a (L := L) (i := i) (xs := xs) (h := h) (c := cc) (s := ss) hL hi6 hk
        refine xS_u xP (scr := some (L, xs)) (mid := xi_L_law) (mi := xmi_L_law) rfl X hscr f 50 23 (lc_v i) [] h cc ss 535 (lc_v i) [.ref 71, .int (xs (i + 3)), .int (xs (i + 2)), .int (xs (i + 1)), .ref 0] h cc ss _ _ _ hf (hR _ _ (by omega) (by omega)) S ?_
        intro H3 locs3 ls3 S3
        have s0 : h.1[0]? = some (0, 9) := (lc_Iq I).2.1 0 _ rfl
        by_cases hv : so_ok h (xs (i + 1)) (xs (i + 2)) (xs (i + 3))
        · obtain ⟨f2, v, h1, he, l1, I1⟩ := cs_good I hv
          refine sh_lawR X s0 he ((lc_Iq I1).2.1 71 _ rfl) S3 ⟨by decide, by decide⟩ ⟨show cc + 0 ≤ 601024 by omega, show ss + 0 ≤ 7293034 by omega⟩ ?_
          intro H4 locs4 S4
          exact sh 0 _ _ _ ad H4 locs4 ls3 (lc_ul I1) (by omega) (by omega) S4
        · obtain ⟨f2, he⟩ := cs_bad (lc_Iq I) hv
          refine sh_lawT X hU hl s0 I.2.1 I.1.1 he S3 ⟨by decide, by decide⟩ ⟨show cc + 1 ≤ 601024 by omega, show ss + 6 ≤ 7293034 by omega⟩ ?_
          intro H4 locs4 ad4 S4
          exact sh 1 _ _ _ ad4 H4 locs4 ls3 I (by omega) (by omega) S4
      · obtain ⟨h', c', s', ⟨f, hf⟩, I', hc', hs'⟩ := ld_all (L := L) (i := i) (xs := xs) (c := cc) (s := ss) hL hi6 I hk
        refine xS_u xP (scr := some (L, xs)) (mid := xi_L_law) (mi := xmi_L_law) rfl X hscr f 50 23 (lc_v i) [] h cc ss 999 (lc_v i) [] h' c' s' _ _ _ hf (hR _ _ (by omega) (by omega)) S ?_
        intro H1 locs1 ls1 S1
        exact nx h' c' s' ad H1 locs1 ls1 I' hc' hs' S1
    · obtain ⟨f, hf⟩ := ld_end (L := L) (i := i) (xs := xs) (h := h) (c := cc) (s := ss) hL (by omega) (by omega)
      refine xS_u xP (scr := some (L, xs)) (mid := xi_L_law) (mi := xmi_L_law) rfl X hscr f 50 23 (lc_v i) [] h cc ss 1005 (lc_v i) [] h cc ss _ _ _ hf (hR _ _ (by omega) (by omega)) S ?_
      intro H1 locs1 ls1 S1
      exact ws_end C0 hsp X S1 (h' := h) (xR_of (f := 3) rfl) (by omega) (by omega)
set_option maxRecDepth 100000 in
theorem hv_f0 : ∀ j, j < 64 → xg 0 xf_h.2.2.1 12 j = if j = 0 then 128 else 0 := by decide +kernel
theorem lb_7 : ∀ k, k < 64 → lb 128 k = decide (k = 7) := by decide +kernel
theorem SI_f : SI xf_h := by
  have e9 : xg 0 xf_h.2.1 0 9 = nI 3 := by decide +kernel
  have e8 : xg 0 xf_h.2.1 0 8 = nI 0 := by decide +kernel
  refine ⟨⟨by decide +kernel, by decide +kernel, by decide +kernel⟩, fun mem sc x1 m12 x2 sc8 => ?_⟩
  rw [e9] at x1
  rw [e8] at x2
  have y1 := congrArg Int32.toInt x1
  have y2 := congrArg Int32.toInt x2
  rw [nI_toInt (by decide), nI_toInt (by omega)] at y1 y2
  have m3 : mem = 3 := by omega
  have s0 : sc = 0 := by omega
  subst m3
  subst s0
  refine ⟨fun k hk' => absurd hk' (Nat.not_lt_zero k), fun s s4 => ?_⟩
  rw [hv_lb, hv_f0 (s / 64) (by omega)]
  by_cases z : s / 64 = 0
  · rw [if_pos z, lb_7 (s % 64) (by omega)]
    by_cases y : s = 7
    · rw [y]; try rfl
    · rw [decide_eq_false (show ¬ s = 2 ^ 3 - 1 from y), decide_eq_false (by omega)]
  · rw [if_neg z, lb_0 (by omega), decide_eq_false (show ¬ s = 2 ^ 3 - 1 by omega)]
theorem VZ_f : VZ xf_h := fun mem vc x1 x2 x3 x4 k hk' => by
  rw [show xg 0 xf_h.2.1 35 3 = nI 0 by decide +kernel] at x3
  have y := congrArg Int32.toInt x3
  rw [nI_toInt (by decide), nI_toInt (by omega)] at y
  omega
theorem PI_f : PI xf_h := by
  refine ⟨fun q h1 z => ?_, fun q m h1 h2 m1 m12 => ?_⟩
  · rw [show xg none xf_h.2.2.2 14 6 = some 11 by decide +kernel] at h1
    exact absurd (Option.some.inj h1).symm z
  · rw [show xg 0 xf_h.2.1 14 7 = nI 0 by decide +kernel] at h2
    have y := congrArg Int32.toInt h2
    rw [nI_toInt (by decide), nI_toInt (by omega)] at y
    omega
theorem lc_f : lc_I xf_h := ⟨a_fresh, by decide, by decide, ⟨0, by decide +kernel, by decide +kernel, by decide, fun k hk' => absurd hk' (Nat.not_lt_zero k)⟩, ⟨3, by decide, by decide +kernel, by decide +kernel⟩, ⟨0, by decide, by decide +kernel, by decide +kernel⟩, ⟨0, by decide, by decide +kernel, by decide +kernel⟩, ⟨0, by decide, by decide +kernel, by decide +kernel⟩, by decide +kernel, by decide +kernel, by unfold chr_; decide +kernel, by unfold plr; decide +kernel, SI_f, VZ_f, PI_f⟩
set_option maxRecDepth 100000 in
set_option maxHeartbeats 8000000 in
/-- from the entry, for every script of at most 3072 ints, the law comes to its end with true -/
theorem whole_start {p : Program} {e : Env} {s : State} {m : MethodId} {below : List Frame} {meth : Method} {c : Code} (l : Launch) (hl : l.stackTraces = false) {b L : Nat} {xs : Nat → Int32} (hL : L ≤ 3072) (C0 : lw_At p s m meth c b L xs) : W p l e room_1 s m #[Value.ref b] below meth c s.heap [] 0 0 (lw_Z below #[Value.ref b] s) (entryFrame m ([Value.ref b] : List Value).toArray 8) := by
  obtain ⟨D, cy, sp, hsp, X⟩ := xl_ctx C0
  have hU := ws_U C0
  have hl0 := lv_entry ([.ref b]) (n := 8) (Nat.le_of_ble_eq_true rfl)
  have hR : 12 ≤ room_1.frames ∧ 40 * 12 ≤ room_1.locals ∧ 72 ≤ room_1.cells ∧ 274345 ≤ room_1.slots := by decide
  rw [lg_entry_eq]
  refine xS_u xP (scr := none) (mid := xi_L_law) (mi := xmi_L_law) rfl X (ad := fun k => s.heap.size + k) (fun L xs z => by cases z) 3000 12 0 [(0, .float 0)] [] ([], [], [], []) 0 0 23 xf_lv [] xf_h 72 274345 _ _ _ (xu_b_ok xf_pre) hR ⟨⟨fun k q h => by simp [xh_ws] at h, ⟨fun i j p q h => by simp [xh_ws] at h, fun k q h => by simp [xh_ws] at h⟩, fun j => ?_⟩, va_S.rf, ?_⟩ ?_
  · show s.heap.size + (0 + j) = s.heap.size + j
    rw [Nat.zero_add]
  · have e0 : xl_m (fun k => s.heap.size + k) sp [(0, .float 0)] = [(0, .ref b)] := by
      show [(0, Value.ref (sp 0))] = [(0, Value.ref b)]
      rw [hsp]
    rw [e0]
    exact hl0
  intro H1 locs1 ls1 S1
  exact wl_loop l hl C0 hsp hL X hU (L + 1) 0 xf_h 72 274345 _ H1 locs1 ls1 (by omega) (by omega) lc_f (by omega) (by omega) S1
end XWS
