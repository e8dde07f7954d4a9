section XSJ
variable {p : Program} {l : Launch} {e : Env} {R : Room} {s : State} {m : MethodId} {args : Array Value} {below : List Frame} {meth : Method} {c : Code} {H : Heap} {locs : List Loc} {cells slots : Nat} {Q : State → Prop}
variable {ls : Array Slot} {D : va_G} {A : Nat → Prop} {ad sp : Nat → Nat} {cy : Nat → ClassId}
theorem sh_good : GoodIn xG (va_wsS RL 68 yL_share (Cond.codeWith yL_share cL_share 6 (some .int) [(0, 11, 14, 13)] :: xG)) := by
  intro w hw
  unfold va_wsS at hw
  rcases List.mem_append.mp hw with h | h
  · rcases List.mem_cons.mp h with rfl | h
    · exact xG_good sh_lk
    · rcases List.mem_cons.mp h with rfl | h
      · exact xG_good sh_ls
      · rcases List.mem_cons.mp h with rfl | h
        · exact xG_good sh_li
        · cases h
  · rcases List.mem_cons.mp h with rfl | h
    · exact xG_good sh_lw
    · exact xG_good h
theorem sh_d : decode code 535 = .ok (.invokestatic 68, 3) := by decide +kernel
theorem sh_lv (ad sp : Nat → Nat) {n k i : Nat} (hn : 72 ≤ n) : xl_m (sh_ad ad n k) sp (lc_v i) = xl_m ad sp (lc_v i) := by
  have e : ∀ j, j < 72 → sh_ad ad n k j = ad j := fun j hj => if_pos (by omega)
  simp [xl_m, lc_v, xh_v, e]
set_option maxRecDepth 100000 in
set_option maxHeartbeats 4000000 in
/-- the law's call of its share: it throws, and is caught -/
theorem sh_lawT (X : xc_X p s m args meth c code 8 RL false D cy A sp) (hU : sh_U A s) (hl : l.stackTraces = false) {h : xh_H} {i : Nat} (h0 : h.1[0]? = some (0, 9)) (hn : 72 ≤ h.1.length) (hi0 : a_inw a_tb h) {a b d : Int32} {f : Nat} {lv' : List (Nat × Value)} (he : xe_u xM xC none 26 f 48 xi_X9_share xmi_X9_share (0, lv_args 0 [.ref 0, .int a, .int b, .int d], [], h, 0, 0) = some (26, lv', [], h, 0, 0)) (S : xc_S D cy ad sp A s 8 h (lc_v i) H locs ls) (hR : 50 ≤ R.frames ∧ 1985 ≤ R.locals) (hcap : cells + 1 ≤ R.cells ∧ slots + 6 ≤ R.slots)
    (kk : ∀ (H1 : Heap) (locs1 : List Loc) (ad1 : Nat → Nat), xc_S D cy ad1 sp A s 8 h (lc_v i) H1 locs1 ls → W p l e R s m args below meth c H1 locs1 (cells + 1) (slots + 6) Q (F0 m 538 ls (([.int 1] : List Value).map (xh_v ad1 sp)))) :
    W p l e R s m args below meth c H locs cells slots Q (F0 m 535 ls (([.ref 71, .int d, .int b, .int a, .ref 0] : List Value).map (xh_v ad sp))) := by
  obtain ⟨hat, hS, hlv⟩ := S
  obtain ⟨hx, hb, hml, hown, hG, hK, hA, hO, hini⟩ := id X
  have hfree := xq_free hat hS hA
  have hr := vx_runSW (R := R) (below := below) (meth := meth) (H := H) (locs := locs) (cells := cells) (slots := slots) (e := e) (y := yL_share) (bytes := cL_share) (cc := code) (maxL := 6) (nL := 8) (ret := some .int) (hh := [(0, 11, 14, 13)]) (Ts := xG) (own := RL) (index := 68) (n := 5) (As := ([.ref 0, .int a, .int b, .int d, .ref 71] : List Value).map (xh_v ad sp)) (rest := []) (g := F0 m 535 ls (([.ref 71, .int d, .int b, .int a, .ref 0] : List Value).map (xh_v ad sp))) (p := p) (m := m) (c := c) (s := s) (args := args) ⟨hx, hb, hml, hown, hG⟩ (ls_thr (D := D) (cy := cy) (ad := ad) (sp := sp) he h0 l hl H.size) (vx_cwSW 5 hG sh_good rfl rfl rfl ⟨by decide, by decide, by decide⟩ ⟨hR.1, hR.2⟩) ⟨sh_blind _ _ _, sh_pre X hat hS hU⟩ rfl rfl hlv.1 rfl (lv_room (Nat.zero_le _)) sh_d hcap
  intro T hT0 X'
  obtain ⟨w, st₀, t, T', L, h0, X2, hL, e1, e2, ⟨hv, ⟨H0, hat0, hz, hk⟩, hF⟩, st⟩ := hr T hT0 X'
  cases hv
  obtain ⟨hF1, hF2⟩ := hF
  rw [h0] at hF1 hF2
  have S2 : xc_S D cy (sh_ad ad h.1.length T'.heap.size) sp A s 8 h (lc_v i) T'.heap (locs ++ L) ls := by
    refine ⟨sh_grow (h := h) (H1 := H0) hi0 (hat0.weaken hfree) (fun q hq => by rw [e1]; exact hk q hq), ⟨Nat.le_trans hS.1 (by rw [e1]; exact hF1), fun q h1 h2 => ?_, fun q hq => ?_⟩, ?_⟩
    · rw [e1, hF2 q (Nat.lt_of_lt_of_le h1 hS.1) (fun z => h2 (hfree q z))]
      exact hS.2.1 q h1 h2
    · rcases List.mem_append.mp hq with h | h
      · exact hS.2.2 q h
      · exact hfree _ (hL q h)
    · rw [sh_lv ad sp hn]
      exact hlv
  obtain ⟨t2, a1, b1⟩ := kk T'.heap (locs ++ L) _ S2 T' rfl X2
  exact ⟨t2, st t2 a1, b1⟩
set_option maxRecDepth 100000 in
set_option maxHeartbeats 4000000 in
/-- the law's call of its share: it returns -/
theorem sh_lawR (X : xc_X p s m args meth c code 8 RL false D cy A sp) {h : xh_H} {i : Nat} (h0 : h.1[0]? = some (0, 9)) {a b d : Int32} {f : Nat} {h1 : xh_H} {v : Int64} (he : xe_x xM xC none f 48 xi_X9_share xmi_X9_share (0, lv_args 0 [.ref 0, .int a, .int b, .int d], [], h, 0, 0) = some (some (.long v), h1, 0, 0)) (h71 : h1.1[71]? = some (4, 1)) (S : xc_S D cy ad sp A s 8 h (lc_v i) H locs ls) (hR : 50 ≤ R.frames ∧ 1985 ≤ R.locals) (hcap : cells + 0 ≤ R.cells ∧ slots + 0 ≤ R.slots)
    (kk : ∀ (H1 : Heap) (locs1 : List Loc), xc_S D cy ad sp A s 8 (xh_ul h1 71 0 v) (lc_v i) H1 locs1 ls → W p l e R s m args below meth c H1 locs1 (cells + 0) (slots + 0) Q (F0 m 538 ls (([.int 0] : List Value).map (xh_v ad sp)))) :
    W p l e R s m args below meth c H locs cells slots Q (F0 m 535 ls (([.ref 71, .int d, .int b, .int a, .ref 0] : List Value).map (xh_v ad sp))) := by
  obtain ⟨hat, hS, hlv⟩ := S
  obtain ⟨hx, hb, hml, hown, hG, hK, hA, hO, hini⟩ := id X
  have hfree := xq_free hat hS hA
  refine xa_call (v := some (.int 0)) (h1 := xh_ul h1 71 0 v) (vx_runSW (y := yL_share) (bytes := cL_share) (cc := code) (maxL := 6) (nL := 8) (ret := some .int) (hh := [(0, 11, 14, 13)]) (Ts := xG) (own := RL) (index := 68) (n := 5) (As := ([.ref 0, .int a, .int b, .int d, .ref 71] : List Value).map (xh_v ad sp)) (rest := []) ⟨hx, hb, hml, hown, hG⟩ (ls_ret (D := D) (cy := cy) (ad := ad) (sp := sp) he h0 h71 l H.size) (vx_cwSW 5 hG sh_good rfl rfl rfl ⟨by decide, by decide, by decide⟩ ⟨hR.1, hR.2⟩) ⟨xq_blind _ _ _, xq_pre X hat hS⟩ rfl rfl hlv.1 rfl (lv_room (Nat.zero_le _)) sh_d hcap) hS hfree ?_
  intro H1 locs1 hat1 hS1
  exact kk H1 locs1 ⟨hat1, hS1, hlv⟩
end XSJ
