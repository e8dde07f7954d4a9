section XRI
theorem a_rq_h0 {S L : Nat → Nat → Bool} {h0 h : xh_H} {tb : aT} (g : fx S L h0 h) (hq : a_rq tb h) : a_rq tb h0 := by
  refine ⟨by rw [← g.1]; exact hq.1, fun c s hs => by rw [← g.1]; exact hq.2.1 c s hs, fun c k ci t h1 h2 => ?_⟩
  rw [← g.2.1]
  exact hq.2.2 c k ci t h1 h2
theorem en_e {T : Nat → Nat} {n p o aw p' o' : Nat} {fs : List Nat} (wf : wfs fs) (e : en T n p o fs = .inl (aw, p', o', [])) : p' = tke T n p ∧ o' = o ∧ tkk T n p = 59 := by
  unfold en at e
  split at e
  · rename_i h2
    split at e
    · have e1 := Sum.inl.inj e
      have e2 : fs.tail = [] := congrArg (fun s => s.2.2.2) e1
      exact absurd e2 (wfs_n (wfs_t wf (by rw [h2]; intro z; cases z)))
    · have e1 := Sum.inl.inj e
      exact absurd (congrArg (fun s => s.2.2.2) e1) (wfs_n wf)
  · split at e
    · have e1 := Sum.inl.inj e
      exact absurd (congrArg (fun s => s.2.2.2) e1) (wfs_n wf)
    · split at e
      · have e1 := Sum.inl.inj e
        exact absurd (congrArg (fun s => s.2.2.2) e1) (wfs_n wf)
      · split at e
        · split at e
          · rename_i h59
            cases e
            exact ⟨rfl, rfl, h59⟩
          · cases e
        · rename_i h0
          split at e
          · have e1 := Sum.inl.inj e
            have e2 : fs.tail = [] := congrArg (fun s => s.2.2.2) e1
            exact absurd e2 (wfs_n (wfs_t wf h0))
          · cases e
variable {T : Nat → Nat} {n mem nn : Nat} {NW : Nat → Nat}
def lSt (h0 h : xh_H) (T : Nat → Nat) (n mem nn : Nat) (NW : Nat → Nat) (s : aSt) : Prop := GI h0 h T n mem nn NW s.2.1 s.2.2.1 s.2.2.2 s.1 ∧ wfs s.2.2.2 ∧ s.1 ≤ 1
def rlp_Q (h0 : xh_H) (T : Nat → Nat) (n mem nn : Nat) (NW : Nat → Nat) (r : aRs) (v : Option Value) (h' : xh_H) : Prop := fx rT gL h0 h' ∧ (∀ aw p' o', r = .inl (aw, p', o', []) → v = some (.int 1) ∧ rq0 h' T n mem nn NW p' o') ∧ ∀ k pl, r = .inr (k, pl) → v = some (.int 0) ∧ xg 0 h'.2.1 39 13 = nI k ∧ xg 0 h'.2.1 39 14 = nI pl
def isE (r : aRs) : Prop := (∃ k pl, r = .inr (k, pl)) ∨ ∃ aw p o, r = .inl (aw, p, o, [])
theorem frs_h {h : xh_H} {fs : List Nat} (w : frs h fs) (wf : wfs fs) : ∃ ty, fs.head? = some ty ∧ xg 0 h.2.1 47 (fs.length - 1) = nI ty ∧ ty ≤ 2 := by
  cases fs with
  | nil => exact absurd rfl (wfs_n wf)
  | cons a b => exact ⟨a, rfl, w.1, w.2.1⟩
theorem stp_n {s : aSt} (h : s.2.2.2 ≠ []) : stp T n mem nn NW s = if s.1 = 1 then bg T n mem nn NW s.2.1 s.2.2.1 s.2.2.2 else en T n s.2.1 s.2.2.1 s.2.2.2 := by
  unfold stp
  rw [if_neg h]
theorem bls_w {p o aw p' o' : Nat} {fs fs' : List Nat} (wf : wfs fs) (e : bls T n p o fs = .inl (aw, p', o', fs')) : wfs fs' ∧ aw ≤ 1 := by
  unfold bls at e
  split at e
  · cases e
  · split at e
    · cases e
    · split at e
      · cases e
      · cases e
        exact ⟨wfs_c wf (Or.inr rfl), Nat.le_refl _⟩
theorem bo_w {p o aw p' o' : Nat} {fs fs' : List Nat} (wf : wfs fs) (e : bo T n mem nn NW p o fs = .inl (aw, p', o', fs')) : wfs fs' ∧ aw ≤ 1 := by
  unfold bo at e
  repeat' split at e
  all_goals first | (cases e; done) | exact bls_w wf e | (cases e; exact ⟨wfs_c wf (Or.inl rfl), Nat.le_refl _⟩) | (cases e; exact ⟨wf, by decide⟩)
theorem bg_w {p o aw p' o' : Nat} {fs fs' : List Nat} (wf : wfs fs) (e : bg T n mem nn NW p o fs = .inl (aw, p', o', fs')) : wfs fs' ∧ aw ≤ 1 := by
  unfold bg bi at e
  repeat' split at e
  all_goals first | (cases e; done) | exact bls_w wf e | exact bo_w wf e
theorem en_w {p o aw p' o' : Nat} {fs fs' : List Nat} (wf : wfs fs) (e : en T n p o fs = .inl (aw, p', o', fs')) (hne : fs' ≠ []) : wfs fs' ∧ aw ≤ 1 := by
  unfold en at e
  split at e
  · rename_i h2
    split at e
    · cases e
      exact ⟨wfs_t wf (by rw [h2]; intro z; cases z), by decide⟩
    · cases e
      exact ⟨wf, by decide⟩
  · split at e
    · cases e
      exact ⟨wf, by decide⟩
    · split at e
      · cases e
        exact ⟨wf, by decide⟩
      · split at e
        · split at e
          · cases e
            exact absurd rfl hne
          · cases e
        · rename_i h0
          split at e
          · cases e
            exact ⟨wfs_t wf h0, by decide⟩
          · cases e
theorem its_d {p o aw : Nat} : ∀ {k : Nat}, its T n mem nn NW k (aw, p, o, []) = .inl (aw, p, o, []) := by
  intro k
  induction k with
  | zero => rfl
  | succ k ih =>
    show (match stp T n mem nn NW (aw, p, o, []) with
      | .inl s' => its T n mem nn NW k s'
      | .inr e => .inr e) = _
    rw [show stp T n mem nn NW (aw, p, o, []) = .inl (aw, p, o, []) from if_pos rfl]
    exact ih
set_option maxRecDepth 100000 in
set_option maxHeartbeats 4000000 in
/-- the reference's loop does what the automaton does -/
theorem rlp_q {h0 : xh_H} : ∀ (k f : Nat) (s : aSt) (h : xh_H), isE (its T n mem nn NW k s) → lSt h0 h T n mem nn NW s → a_rq a_tb h → xq f xi_X10_readRule xmi_X10_readRule 15 [(0, .ref 39)] [] h (rlp_Q h0 T n mem nn NW (its T n mem nn NW k s)) := by
  intro k
  induction k with
  | zero =>
    intro f s h he ls hq
    rcases he with ⟨k, pl, e⟩ | ⟨aw, p, o, e⟩
    · cases e
    · have e : s = (aw, p, o, []) := Sum.inl.inj e
      subst e
      exact absurd rfl (wfs_n ls.2.1)
  | succ k ih =>
    intro f s h he ls hq
    obtain ⟨aw, p, o, fs⟩ := s
    obtain ⟨gi, wf, aw1⟩ := ls
    have gi : GI h0 h T n mem nn NW p o fs aw := gi
    have wf : wfs fs := wf
    have aw1 : aw ≤ 1 := aw1
    have es : its T n mem nn NW (k + 1) (aw, p, o, fs) = (match stp T n mem nn NW (aw, p, o, fs) with
      | .inl s' => its T n mem nn NW k s'
      | .inr e => .inr e) := rfl
    rw [stp_n (s := (aw, p, o, fs)) (wfs_n wf)] at es
    obtain ⟨ty, hty, e47, ty2⟩ := frs_h gi.2.1.2.2.2.2.2.2.2.2.2.2.1 wf
    have e30 := gi.2.2.2
    have e29 := gi.2.2.1
    by_cases ha : aw = 1
    · subst ha
      have es : its T n mem nn NW (k + 1) (1, p, o, fs) = (match bg T n mem nn NW p o fs with
        | .inl s' => its T n mem nn NW k s'
        | .inr e => .inr e) := es
      refine xq_n 30 [0] [(0, .ref 39)] [.ref 39] h [false, false] 9 hq rfl ⟨(show xe_c .ne (xg 0 h.2.1 39 30) 0 = false by rw [e30]; rfl), (show xe_c .eq (xg 0 h.2.1 39 29) 0 = false by rw [e29]; rfl), trivial⟩ (fun hq => ?_)
      refine xq_run hq rfl rfl (bg_q gi.2.1 hty e47 ty2 hq) ?_
      rintro v h1 ⟨g1, q1, q2⟩
      have hq := fx_q g1 hq
      have gt : fx rT gL h0 h1 := fx_t gi.1 (fx_w g1 (fun _ _ z => rS_t z) (fun _ _ z => z))
      cases hr : bg T n mem nn NW p o fs with
      | inl s' =>
        obtain ⟨aw', p', o', fs'⟩ := s'
        obtain ⟨rfl, r1, r2⟩ := q1 _ _ _ _ hr
        rw [hr] at es
        have es : its T n mem nn NW (k + 1) (1, p, o, fs) = its T n mem nn NW k (aw', p', o', fs') := es
        rw [es] at he ⊢
        refine xq_n 15 [0] [(0, .ref 39)] [] h1 [false] 4 hq rfl ⟨rfl, trivial⟩ (fun hq => ?_)
        obtain ⟨w1, w2⟩ := bg_w wf hr
        exact ih f _ h1 he ⟨⟨gt, r1, r2, (fx_i g1 rfl).trans e30⟩, w1, w2⟩ hq
      | inr e =>
        obtain ⟨k1, pl⟩ := e
        obtain ⟨rfl, r1, r2⟩ := q2 _ _ hr
        rw [hr] at es
        have es : its T n mem nn NW (k + 1) (1, p, o, fs) = .inr (k1, pl) := es
        rw [es]
        refine xq_n 47 [] [] [.int (Int32.ofInt 0)] h1 [true] 4 hq rfl ⟨rfl, trivial⟩ (fun hq => ?_)
        exact xq_ret rfl rfl rfl ⟨gt, fun _ _ _ e => (by cases e), fun _ _ e => by cases e; exact ⟨rfl, r1, r2⟩⟩
    · have ha0 : aw = 0 := by omega
      subst ha0
      have es : its T n mem nn NW (k + 1) (0, p, o, fs) = (match en T n p o fs with
        | .inl s' => its T n mem nn NW k s'
        | .inr e => .inr e) := es
      refine xq_n 40 [0] [(0, .ref 39)] [.ref 39] h [false, true] 9 hq rfl ⟨(show xe_c .ne (xg 0 h.2.1 39 30) 0 = false by rw [e30]; rfl), (show xe_c .eq (xg 0 h.2.1 39 29) 0 = true by rw [e29]; rfl), trivial⟩ (fun hq => ?_)
      refine xq_run hq rfl rfl (en_q hq gi wf hty e47 ty2) ?_
      rintro v h1 ⟨g1, q1, q2, q3⟩
      have hq : a_rq a_tb h1 := fx_q (fx_t (fx_0 (S := rT) (L := gL)) g1) (a_rq_h0 gi.1 hq)
      cases hr : en T n p o fs with
      | inl s' =>
        obtain ⟨aw', p', o', fs'⟩ := s'
        rw [hr] at es
        have es : its T n mem nn NW (k + 1) (0, p, o, fs) = its T n mem nn NW k (aw', p', o', fs') := es
        by_cases hn : fs' = []
        · subst hn
          rw [its_d] at es
          rw [es]
          obtain ⟨rfl, r1, r2⟩ := q2 _ _ _ hr
          have ep : p' = tke T n p ∧ o' = o ∧ tkk T n p = 59 := en_e wf hr
          refine xq_n 15 [0] [(0, .ref 39)] [] h1 [true] 3 hq rfl ⟨rfl, trivial⟩ (fun hq => ?_)
          refine xq_n 49 [0] [(0, .ref 39)] [.ref 39] h1 [true] 6 hq rfl ⟨(show xe_c .ne (xg 0 h1.2.1 39 30) 0 = true by rw [r1]; rfl), trivial⟩ (fun hq => ?_)
          obtain ⟨s1, s2, s3, s4, s5, s6, s7, s8⟩ := r2
          have nz : tkk T n p ≠ 0 := by omega
          refine xq_run hq rfl rfl (go_q hq s1 (s2.2.2.2.2.2 nz) (tke_le nz)) ?_
          rintro v h2 ⟨rfl, g2, t2⟩
          have hq := fx_q g2 hq
          refine xq_n 53 [] [] [.int (Int32.ofInt 1)] h2 [] 3 hq rfl trivial (fun hq => ?_)
          refine xq_ret rfl rfl rfl ⟨fx_t g1 (fx_w g2 (fun _ _ z => gS_r (rS_t z)) (fun _ _ z => z)), fun _ _ _ e => ?_, fun _ _ e => (by cases e)⟩
          cases e
          obtain ⟨rfl, rfl, -⟩ := ep
          exact ⟨rfl, rtp_f s1 g2 rfl (fun _ => rfl), t2, (fx_i g2 rfl).trans s3, s4, nms_f s5 g2 rfl (fun _ => rfl), (fx_i g2 rfl).trans s6, s7, (fx_i g2 rfl).trans s8⟩
        · obtain ⟨rfl, r1, r2, r3⟩ := q1 _ _ _ _ hr hn
          rw [es] at he ⊢
          refine xq_n 15 [0] [(0, .ref 39)] [] h1 [true] 3 hq rfl ⟨rfl, trivial⟩ (fun hq => ?_)
          obtain ⟨w1, w2⟩ := en_w wf hr hn
          exact ih f _ h1 he ⟨⟨g1, r1, r2, r3⟩, w1, w2⟩ hq
      | inr e =>
        obtain ⟨k1, pl⟩ := e
        obtain ⟨rfl, r1, r2⟩ := q3 _ _ hr
        rw [hr] at es
        have es : its T n mem nn NW (k + 1) (0, p, o, fs) = .inr (k1, pl) := es
        rw [es]
        refine xq_n 47 [] [] [.int (Int32.ofInt 0)] h1 [false] 4 hq rfl ⟨rfl, trivial⟩ (fun hq => ?_)
        exact xq_ret rfl rfl rfl ⟨g1, fun _ _ _ e => (by cases e), fun _ _ e => by cases e; exact ⟨rfl, r1, r2⟩⟩
end XRI
