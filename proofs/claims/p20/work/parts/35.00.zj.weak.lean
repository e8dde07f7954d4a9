section XWK
/-- the table for heaps whose table of who is at least as strong is not ready -/
def a_tb2 : aT := a_tb ++ [[]]
theorem a_tb2_g (t : Nat) : a_tb2.getD t [] = a_tb.getD t [] := by
  have hl : a_tb.length = 72 := rfl
  unfold a_tb2
  rw [List.getD_eq_getElem?_getD, List.getD_eq_getElem?_getD]
  by_cases h : t < 72
  · rw [List.getElem?_append_left (by omega)]
  · rw [List.getElem?_append_right (by omega), List.getElem?_eq_none (l := a_tb) (by omega), hl]
    by_cases h2 : t = 72
    · subst h2
      rfl
    · rw [List.getElem?_eq_none (by show 1 ≤ t - 72; omega)]
theorem a_ent2 {s : Nat × Nat} {t k : Nat} : a_ent a_tb2 s t k = a_ent a_tb s t k := by
  unfold a_ent
  rw [a_tb2_g]
theorem a_inw2 {h : xh_H} : a_inw a_tb2 h ↔ a_inw a_tb h := by
  unfold a_inw
  constructor
  · intro z c s hs
    obtain ⟨g1, g2⟩ := z c s hs
    exact ⟨g1, fun k hk => by rw [← a_ent2]; exact g2 k hk⟩
  · intro z c s hs
    obtain ⟨g1, g2⟩ := z c s hs
    exact ⟨g1, fun k hk => by rw [a_ent2]; exact g2 k hk⟩
theorem a_J2 {h : xh_H} (hj : a_J a_tb h) : a_J a_tb2 h := ⟨hj.1, hj.2.1, hj.2.2.1, fun z => absurd z (by decide)⟩
theorem as_w_X7_holds : a_spec a_tb2 aC_m_X7_holds := a_meth (Sp := []) (hd := aH_m_X7_holds) (mi := xmi_X7_holds) 30 rfl a_sp_n (by decide +kernel) (by decide +kernel)
theorem as_w_X2_does : a_spec a_tb2 aC_m_X2_does := a_meth (Sp := [aC_m_X7_holds]) (hd := aH_m_X2_does) (mi := xmi_X2_does) 20 rfl (a_sp_c as_w_X7_holds a_sp_n) (by decide +kernel) (by decide +kernel)
theorem as_w_X2_isMinimal : a_spec a_tb2 aC_m_X2_isMinimal := a_meth (Sp := [aC_m_X2_does]) (hd := aH_m_X2_isMinimal) (mi := xmi_X2_isMinimal) 29 rfl (a_sp_c as_w_X2_does a_sp_n) (by decide +kernel) (by decide +kernel)
theorem as_w_X2_markNeeded : a_spec a_tb2 aC_m_X2_markNeeded := a_meth (Sp := []) (hd := aH_m_X2_markNeeded) (mi := xmi_X2_markNeeded) 32 rfl a_sp_n (by decide +kernel) (by decide +kernel)
theorem as_w_X2_turnsBy : a_spec a_tb2 aC_m_X2_turnsBy := a_meth (Sp := [aC_m_X7_holds]) (hd := aH_m_X2_turnsBy) (mi := xmi_X2_turnsBy) 28 rfl (a_sp_c as_w_X7_holds a_sp_n) (by decide +kernel) (by decide +kernel)
theorem as_w_X2_countSwings : a_spec a_tb2 aC_m_X2_countSwings := a_meth (Sp := [aC_m_X2_turnsBy]) (hd := aH_m_X2_countSwings) (mi := xmi_X2_countSwings) 18 rfl (a_sp_c as_w_X2_turnsBy a_sp_n) (by decide +kernel) (by decide +kernel)
def hw (md : List (Nat × Nat)) (h0 h : xh_H) : Prop := a_inv a_tb2 h ∧ h.1 = h0.1 ∧ a_fr md h0 h
variable {md md' : List (Nat × Nat)} {h0 h h' : xh_H} {c k : Nat} {x y : Int32}
theorem hw_0 (hi : a_inv a_tb2 h) : hw md h h := ⟨hi, rfl, fun _ _ _ _ => rfl⟩
theorem hw_n (hk0 : hw md h0 h) (hn : 72 ≤ h0.1.length) : 72 ≤ h.1.length := by rw [hk0.2.1]; exact hn
theorem hw_q (hk0 : hw md h0 h) (hn : 72 ≤ h0.1.length) : a_rq a_tb2 h := a_rq_of hk0.1.1 (hw_n hk0 hn)
theorem hw_g (hk0 : hw md h0 h) (hz : a_fz c = true) (hm : a_mb md c k = false) : xg 0 h.2.1 c k = xg 0 h0.2.1 c k := hk0.2.2 c k hz (a_mb_f hm)
theorem hw_ui {s : Nat × Nat} {lo hi : Int} (hk0 : hw md h0 h) (hn : 72 ≤ h0.1.length) (hs : a_sh[c]? = some s) (he : a_ent a_tb2 s c k = (0, lo, hi)) (h1 : lo ≤ x.toInt) (h2 : x.toInt ≤ hi) (hj : a_jc c k = false) (hm : a_mb md c k = true) : hw md h0 (xh_ui h c k x) := by
  have hc := a_sh_lt hs
  refine ⟨⟨a_inw_ui hk0.1.1 ((hw_q hk0 hn).2.1 c s hs) (by rw [a_tg_lt hc]; exact he) h1 h2, a_J_ui hk0.1.2 hj⟩, hk0.2.1, ?_⟩
  intro c' k' hz hm'
  rw [← hk0.2.2 c' k' hz hm']
  by_cases e : c' = c
  · subst e
    by_cases e2 : k' = k
    · subst e2
      exact absurd (a_mb_t hm) hm'
    · exact xh_up_k e2
  · exact congrFun (xh_up_o e) k'
theorem hw_c (hk0 : hw md h0 h) (hi : a_inv a_tb2 h') (hl : h'.1 = h.1) (hf : a_fr md' h h') (hs : ∀ q, q ∈ md' → q ∈ md) : hw md h0 h' := by
  refine ⟨hi, hl.trans hk0.2.1, fun c k hz hm => ?_⟩
  rw [hf c k hz (fun z => hm (hs _ z))]
  exact hk0.2.2 c k hz hm
theorem a_elw {n : Nat} {lo hi : Int} (hi0 : a_inw a_tb2 h) (hn : 72 ≤ h.1.length) (hs : a_sh[c]? = some (1, n)) (he : a_ent a_tb2 (1, n) c 0 = (0, lo, hi)) (hk : k < n) : lo ≤ (xg 0 h.2.1 c k).toInt ∧ (xg 0 h.2.1 c k).toInt ≤ hi := by
  have h1 := (a_rq_of hi0 hn).2.1 c _ hs
  have g := (hi0 c _ h1).2 k hk
  rw [a_tg_lt (a_sh_lt hs), a_ent0 (fun z => by cases z), he] at g
  exact g
theorem a_flw {ci : Nat} {lo hi : Int} (hi0 : a_inw a_tb2 h) (hn : 72 ≤ h.1.length) (hs : a_sh[c]? = some (0, ci)) (he : a_ent a_tb2 (0, ci) c k = (0, lo, hi)) (hk : k < xh_N ci) : lo ≤ (xg 0 h.2.1 c k).toInt ∧ (xg 0 h.2.1 c k).toInt ≤ hi := by
  have h1 := (a_rq_of hi0 hn).2.1 c _ hs
  have g := (hi0 c _ h1).2 k hk
  rw [a_tg_lt (a_sh_lt hs), he] at g
  exact g
end XWK
