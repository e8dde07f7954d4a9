section XSE
variable {T : Nat → Nat} {n mem nn : Nat} {NW : Nat → Nat}
/-- the data's run from a result on -/
def Rrv (T : Nat → Nat) (n nn : Nat) (NW : Nat → Nat) (sv : Nat) (NV : Nat → Bool) (mem : Nat) (r : aRs) (x : List vF × Bool) (s' : aSt) (x' : List vF × Bool) : Prop := ∃ s, r = .inl s ∧ Rv T n nn NW sv NV mem s x s' x'
section
variable (T : Nat → Nat) (n mem nn : Nat) (NW : Nat → Nat)
def VO (d p o p' o' : Nat) (c : cdL) : Prop := ∀ (sv : Nat) (NV : Nat → Bool) (nm : Int32), sv < 4096 → nmo nn NV nm → ∃ y, pv (nI sv) nm (25 - 2 * d) c (bl y) ∧ ∀ (fs : List Nat) (ds : List vF) (one : Bool), fs.length = d + 1 → Rrv T n nn NW sv NV mem (bo T n mem nn NW p o fs) (vbo T n nn NW sv NV p ds one) (0, p', o', fs) (ds, y)
def VQ (d p o st num p' o' : Nat) (c : cdL) : Prop := ∀ (sv : Nat) (NV : Nat → Bool) (nm : Int32), sv < 4096 → nmo nn NV nm → ∃ y, pv (nI sv) nm (25 - 2 * d) c (bl y) ∧ ∀ (fs : List Nat) (ds : List vF) (one : Bool), fs.length = d + 1 → Rrv T n nn NW sv NV mem (qt T n p o st num fs) (vL (nI num) :: ds, one) (0, p', o', fs) (ds, y)
def VA (d p o p' o' : Nat) (c : cdL) : Prop := ∀ (sv : Nat) (NV : Nat → Bool) (nm : Int32), sv < 4096 → nmo nn NV nm → ∃ y, pv (nI sv) nm (26 - 2 * d) c (bl y) ∧ ∀ (t : Nat) (fs : List Nat) (ov : Bool) (su w nd : Int32) (ds : List vF) (one : Bool), t ≠ 2 → fs.length = d → ∃ a' one', (a' && one') = y ∧ Rv T n nn NW sv NV mem (1, p, o, t :: fs) ((ov, true, su, w, nd) :: ds, one) (0, p', o', t :: fs) ((ov, a', su, w, nd) :: ds, one')
def VR (d p o p' o' : Nat) (c : cdL) : Prop := ∀ (sv : Nat) (NV : Nat → Bool) (nm : Int32), sv < 4096 → nmo nn NV nm → ∃ y, pv (nI sv) nm (27 - 2 * d) c (bl y) ∧ ∀ (t : Nat) (fs : List Nat) (su w nd : Int32) (ds : List vF) (one : Bool), t ≠ 2 → fs.length = d → ∃ ov' a' one', (ov' || (a' && one')) = y ∧ Rv T n nn NW sv NV mem (1, p, o, t :: fs) ((false, true, su, w, nd) :: ds, one) (0, p', o', t :: fs) ((ov', a', su, w, nd) :: ds, one')
def VI (d p o p' o' : Nat) (c : cdL) : Prop := ∃ c1 wt, c = c1 ++ [(5, wt)] ∧ ∀ (sv : Nat) (NV : Nat → Bool) (nm : Int32), sv < 4096 → nmo nn NV nm → ∃ y, pv (nI sv) nm (25 - 2 * d) c1 (bl y) ∧ ∀ (fs : List Nat) (ov av : Bool) (su nd : Int32) (ds : List vF) (one : Bool), fs.length = d → Rv T n nn NW sv NV mem (1, p, o, 2 :: fs) ((ov, av, su, 1, nd) :: ds, one) (0, p', o', 2 :: fs) ((ov, av, su, wt, nd) :: ds, y)
def VS (d P o num p' o' : Nat) (c : cdL) : Prop := ∀ (sv : Nat) (NV : Nat → Bool) (nm : Int32), sv < 4096 → nmo nn NV nm → ∃ S, pv (nI sv) nm (25 - 2 * d) c S ∧ ∀ (fs : List Nat) (ds : List vF) (one : Bool), fs.length = d + 1 → ∃ su w one', S = (if one' = true then su + w else su) ∧ Rv T n nn NW sv NV mem (1, P, o + 1, 2 :: fs) (vL (nI num) :: ds, one) (0, p', o', 2 :: fs) ((false, true, su, w, nI num) :: ds, one')
end
theorem vdt1 {p o t : Nat} {fs : List Nat} {sv : Nat} {NV : Nat → Bool} {x1 : List vF} {x2 : Bool} : vdt T n nn NW sv NV (1, p, o, t :: fs) (x1, x2) = vbg T n nn NW sv NV p (t :: fs) x1 x2 := by
  unfold vdt
  rw [if_neg (by intro z; cases z), if_pos rfl]
theorem vdt0 {p o t : Nat} {fs : List Nat} {sv : Nat} {NV : Nat → Bool} {x1 : List vF} {x2 : Bool} : vdt T n nn NW sv NV (0, p, o, t :: fs) (x1, x2) = ven T n p (t :: fs) x1 x2 := by
  unfold vdt
  rw [if_neg (by intro z; cases z), if_neg (show ¬ (0 = 1) by decide)]
theorem ven_c {p : Nat} {fs : List Nat} {o a one : Bool} {su w nd : Int32} {r : List vF} : ven T n p fs ((o, a, su, w, nd) :: r) one = if fs.head? = some 2 then (if tkk T n p = 93 then (r, xe_c .ge (if one = true then su + w else su) nd) else ((o, a, if one = true then su + w else su, 1, nd) :: r, one)) else if ky T n p 2 = true then ((o, a && one, su, w, nd) :: r, one) else if ky T n p 3 = true then ((o || (a && one), true, su, w, nd) :: r, one) else (r, o || (a && one)) := rfl
theorem vbgO {p t : Nat} {fs : List Nat} {sv : Nat} {NV : Nat → Bool} {ds : List vF} {one : Bool} (ht : t ≠ 2) : vbg T n nn NW sv NV p (t :: fs) ds one = vbo T n nn NW sv NV p ds one := by
  unfold vbg
  rw [if_neg]
  rintro ⟨e, -⟩
  exact ht (Option.some.inj e)
theorem Rv_r {s s1 : aSt} {r : aRs} {x x1 : List vF × Bool} {sv : Nat} {NV : Nat → Bool} (h : stp T n mem nn NW s = r) (a : Rrv T n nn NW sv NV mem r (vdt T n nn NW sv NV s x) s1 x1) : Rv T n nn NW sv NV mem s x s1 x1 := by
  obtain ⟨s2, e, b⟩ := a
  exact Rv_t (Rv_1 (h.trans e)) b
theorem VO_mem {d p o : Nat} (hl : lone T n p = true) (hm : T (tks T n p) - 97 < mem) (m12 : mem ≤ 12) (o6 : o < 120) (d12 : d ≤ 12) : VO T n mem nn NW d p o (tke T n p) (o + 1) [(0, nI (T (tks T n p) - 97))] := by
  intro sv NV nm hs hn
  have k2 := (of_decide_eq_true hl).1
  refine ⟨sv.testBit (T (tks T n p) - 97), ?_, fun fs ds one hf => ⟨(0, tke T n p, o + 1, fs), ?_, ?_⟩⟩
  · have := pv_m (sv := nI sv) (nm := nm) (v := nI (T (tks T n p) - 97))
    rw [nI_b0 (by omega) (by omega), ← bl_nI] at this
    exact pv_le this (by omega)
  · unfold bo
    rw [if_neg (by omega), if_neg (by omega), if_pos hl, if_neg (by omega), if_neg (by omega)]
  · unfold vbo
    rw [if_neg (by omega), if_neg (by omega), if_pos hl]
    exact Rv_0
theorem lone_n {p : Nat} (h : nmt T n p = true) : lone T n p = false := by
  have h1 := of_decide_eq_true h
  refine decide_eq_false (fun z => ?_)
  have := z.2
  have := h1.2.1
  omega
theorem VO_nam {d p o : Nat} (hl : nmt T n p = true) (hh : hasn nn NW (tkw T n p) = true) (hk : nmi nn NW (tkw T n p) < nn) (n16 : nn ≤ 16) (o6 : o < 120) (d12 : d ≤ 12) : VO T n mem nn NW d p o (tke T n p) (o + 1) [(1, nI (nmi nn NW (tkw T n p)))] := by
  intro sv NV nm hs hn
  have k2 := (of_decide_eq_true hl).1
  refine ⟨NV (nmi nn NW (tkw T n p)), ?_, fun fs ds one hf => ⟨(0, tke T n p, o + 1, fs), ?_, ?_⟩⟩
  · have := pv_n (sv := nI sv) (nm := nm) (v := nI (nmi nn NW (tkw T n p)))
    rw [nmo_b hn n16 hk] at this
    exact pv_le this (by omega)
  · unfold bo
    rw [if_neg (by omega), if_neg (by omega), if_neg (by rw [lone_n hl]; decide), if_pos hl, if_neg (by rw [hh]; decide), if_neg (by omega)]
  · unfold vbo
    rw [if_neg (by omega), if_neg (by omega), if_neg (by rw [lone_n hl]; decide)]
    exact Rv_0
theorem VO_par {d p o p' o' : Nat} {c : cdL} (k40 : tkk T n p = 40) (o6 : o < 120) (d12 : d < 12) (h : VR T n mem nn NW (d + 1) (tke T n p) (o + 1) p' o' c) (k2 : ky T n p' 2 = false) (k3 : ky T n p' 3 = false) (k41 : tkk T n p' = 41) : VO T n mem nn NW d p o (tke T n p') o' c := by
  intro sv NV nm hs hn
  obtain ⟨y, h1, h2⟩ := h sv NV nm hs hn
  refine ⟨y, pv_le h1 (by omega), fun fs ds one hf => ⟨(1, tke T n p, o + 1, 1 :: fs), ?_, ?_⟩⟩
  · unfold bo
    rw [if_neg (by omega), if_pos k40, if_neg (by omega), if_neg (by omega)]
  · unfold vbo
    rw [if_neg (by omega), if_pos k40]
    obtain ⟨ov, a, one', e, r⟩ := h2 1 fs 0 1 0 ds one (by decide) hf
    refine Rv_t r ?_
    have es : stp T n mem nn NW (0, p', o', 1 :: fs) = .inl (0, tke T n p', o', fs) := by
      rw [enE]
      unfold en
      rw [if_neg (by intro z; cases z), if_neg (by rw [k2]; decide), if_neg (by rw [k3]; decide), if_neg (by intro z; cases z), if_pos k41]
      rfl
    have := Rv_1 (sv := sv) (NV := NV) (x := ((ov, a, (0 : Int32), (1 : Int32), (0 : Int32)) :: ds, one')) es
    rw [vdt0, ven_c] at this
    rw [if_neg (by intro z; cases z), if_neg (by rw [k2]; decide), if_neg (by rw [k3]; decide)] at this
    rw [e] at this
    exact this
theorem VO_quo {d p o p' o' : Nat} {c : cdL} (k3 : tkk T n p = 3) (h : VQ T n mem nn NW d (tke T n p) o (tks T n p) (tkn T n p) p' o' c) : VO T n mem nn NW d p o p' o' c := by
  intro sv NV nm hs hn
  obtain ⟨y, h1, h2⟩ := h sv NV nm hs hn
  refine ⟨y, h1, fun fs ds one hf => ?_⟩
  rw [show bo T n mem nn NW p o fs = qt T n (tke T n p) o (tks T n p) (tkn T n p) fs from by unfold bo qt; rw [if_pos k3]]
  rw [show vbo T n nn NW sv NV p ds one = (vL (nI (tkn T n p)) :: ds, one) from by unfold vbo; rw [if_pos k3]]
  exact h2 fs ds one hf
theorem VA_1 {d p o p' o' : Nat} {c : cdL} (d12 : d ≤ 12) (h : VO T n mem nn NW d p o p' o' c) : VA T n mem nn NW d p o p' o' c := by
  intro sv NV nm hs hn
  obtain ⟨y, h1, h2⟩ := h sv NV nm hs hn
  refine ⟨y, pv_le h1 (by omega), fun t fs ov su w nd ds one ht hf => ⟨true, y, Bool.true_and y, ?_⟩⟩
  refine Rv_r (bgO ht) ?_
  rw [vdt1, vbgO ht]
  exact h2 (t :: fs) _ one (by rw [List.length_cons, hf])
theorem VA_s {d p o p1 o1 p2 o2 : Nat} {v : Int32} {c c2 : cdL} (d12 : d ≤ 12) (h : VA T n mem nn NW d p o p1 o1 c) (k2 : ky T n p1 2 = true) (h' : VO T n mem nn NW d (tke T n p1) o1 p2 o2 c2) : VA T n mem nn NW d p o p2 o2 (c ++ (c2 ++ [(2, v)])) := by
  intro sv NV nm hs hn
  obtain ⟨y, h1, h2⟩ := h sv NV nm hs hn
  obtain ⟨z, h3, h4⟩ := h' sv NV nm hs hn
  refine ⟨y && z, by rw [← bl_and]; exact pv_and h1 h3 (by omega), fun t fs ov su w nd ds one ht hf => ?_⟩
  obtain ⟨a, one', e, r⟩ := h2 t fs ov su w nd ds one ht hf
  refine ⟨y, z, rfl, Rv_t r ?_⟩
  have es : stp T n mem nn NW (0, p1, o1, t :: fs) = .inl (1, tke T n p1, o1, t :: fs) := by
    rw [enE]
    unfold en
    rw [if_neg (show ¬ (t :: fs).head? = some 2 from fun z => ht (Option.some.inj z)), if_pos k2]
  have r1 := Rv_1 (sv := sv) (NV := NV) (x := ((ov, a, su, w, nd) :: ds, one')) es
  rw [vdt0, ven_c] at r1
  rw [if_neg (show ¬ (t :: fs).head? = some 2 from fun z => ht (Option.some.inj z)), if_pos k2, e] at r1
  refine Rv_t r1 (Rv_r (bgO ht) ?_)
  rw [vdt1, vbgO ht]
  exact h4 (t :: fs) _ one' (by rw [List.length_cons, hf])
theorem VR_1 {d p o p' o' : Nat} {c : cdL} (d12 : d ≤ 12) (h : VA T n mem nn NW d p o p' o' c) : VR T n mem nn NW d p o p' o' c := by
  intro sv NV nm hs hn
  obtain ⟨y, h1, h2⟩ := h sv NV nm hs hn
  refine ⟨y, pv_le h1 (by omega), fun t fs su w nd ds one ht hf => ?_⟩
  obtain ⟨a, one', e, r⟩ := h2 t fs false su w nd ds one ht hf
  exact ⟨false, a, one', by rw [e]; exact Bool.false_or y, r⟩
theorem VR_s {d p o p1 o1 p2 o2 : Nat} {v : Int32} {c c2 : cdL} (d12 : d ≤ 12) (h : VR T n mem nn NW d p o p1 o1 c) (k2 : ky T n p1 2 = false) (k3 : ky T n p1 3 = true) (h' : VA T n mem nn NW d (tke T n p1) o1 p2 o2 c2) : VR T n mem nn NW d p o p2 o2 (c ++ (c2 ++ [(3, v)])) := by
  intro sv NV nm hs hn
  obtain ⟨y, h1, h2⟩ := h sv NV nm hs hn
  obtain ⟨z, h3, h4⟩ := h' sv NV nm hs hn
  refine ⟨y || z, by rw [← bl_or]; exact pv_or h1 h3 (by omega), fun t fs su w nd ds one ht hf => ?_⟩
  obtain ⟨ov, a, one', e, r⟩ := h2 t fs su w nd ds one ht hf
  obtain ⟨a2, one2, e2, r2⟩ := h4 t fs y su w nd ds one' ht hf
  refine ⟨y, a2, one2, by rw [e2], Rv_t r (Rv_t ?_ r2)⟩
  have es : stp T n mem nn NW (0, p1, o1, t :: fs) = .inl (1, tke T n p1, o1, t :: fs) := by
    rw [enE]
    unfold en
    rw [if_neg (show ¬ (t :: fs).head? = some 2 from fun z => ht (Option.some.inj z)), if_neg (by rw [k2]; decide), if_pos k3]
  have r1 := Rv_1 (sv := sv) (NV := NV) (x := ((ov, a, su, w, nd) :: ds, one')) es
  rw [vdt0, ven_c] at r1
  rw [if_neg (show ¬ (t :: fs).head? = some 2 from fun z => ht (Option.some.inj z)), if_neg (by rw [k2]; decide), if_pos k3, e] at r1
  exact r1
theorem VI_1 {d p o p' o' : Nat} {c : cdL} (k3 : tkk T n p ≠ 3) (h : VO T n mem nn NW d p o p' o' c) : VI T n mem nn NW d p o p' o' (c ++ [(5, 1)]) := by
  refine ⟨c, 1, rfl, fun sv NV nm hs hn => ?_⟩
  obtain ⟨y, h1, h2⟩ := h sv NV nm hs hn
  refine ⟨y, h1, fun fs ov av su nd ds one hf => ?_⟩
  refine Rv_r (r := bo T n mem nn NW p o (2 :: fs)) (by rw [bgI, if_neg k3]) ?_
  rw [vdt1]
  unfold vbg
  rw [if_neg (fun z => k3 z.2)]
  exact h2 (2 :: fs) _ one (by rw [List.length_cons, hf])
theorem VI_w {d p o p' o' : Nat} {c : cdL} (k3 : tkk T n p = 3) (k42 : tkk T n (tke T n p) = 42) (h : VO T n mem nn NW d (tke T n (tke T n p)) o p' o' c) : VI T n mem nn NW d p o p' o' (c ++ [(5, nI (tkn T n p))]) := by
  refine ⟨c, nI (tkn T n p), rfl, fun sv NV nm hs hn => ?_⟩
  obtain ⟨y, h1, h2⟩ := h sv NV nm hs hn
  refine ⟨y, h1, fun fs ov av su nd ds one hf => ?_⟩
  refine Rv_r (r := bo T n mem nn NW (tke T n (tke T n p)) o (2 :: fs)) (by rw [bgI, if_pos k3]; unfold bi; rw [if_pos k42]) ?_
  rw [vdt1]
  unfold vbg
  rw [if_pos ⟨rfl, k3⟩]
  unfold vbi
  rw [if_pos k42]
  exact h2 (2 :: fs) _ one (by rw [List.length_cons, hf])
theorem VI_q {d p o p' o' : Nat} {c : cdL} (k3 : tkk T n p = 3) (k42 : tkk T n (tke T n p) ≠ 42) (k4 : ky T n (tke T n p) 4 = true) (h : VQ T n mem nn NW d (tke T n p) o (tks T n p) (tkn T n p) p' o' c) : VI T n mem nn NW d p o p' o' (c ++ [(5, 1)]) := by
  refine ⟨c, 1, rfl, fun sv NV nm hs hn => ?_⟩
  obtain ⟨y, h1, h2⟩ := h sv NV nm hs hn
  refine ⟨y, h1, fun fs ov av su nd ds one hf => ?_⟩
  refine Rv_r (r := qt T n (tke T n p) o (tks T n p) (tkn T n p) (2 :: fs)) (by rw [bgI, if_pos k3]; unfold bi qt; rw [if_neg k42, if_neg (by rw [k4]; decide)]) ?_
  rw [vdt1]
  unfold vbg
  rw [if_pos ⟨rfl, k3⟩]
  unfold vbi
  rw [if_neg k42]
  exact h2 (2 :: fs) _ one (by rw [List.length_cons, hf])
theorem VS_1 {d P o num p1 o1 : Nat} {v : Int32} {c : cdL} (d11 : d ≤ 11) (h : VI T n mem nn NW (d + 1) P (o + 1) p1 o1 c) : VS T n mem nn NW d P o num p1 o1 ([(4, v)] ++ c) := by
  intro sv NV nm hs hn
  obtain ⟨c1, wt, rfl, h⟩ := h
  obtain ⟨y, h1, h2⟩ := h sv NV nm hs hn
  refine ⟨_, pv_item (pv_le (pv_begin (v := v)) (by omega)) h1 (by omega), fun fs ds one hf => ⟨0, wt, y, bl_mul, ?_⟩⟩
  exact h2 fs false true 0 (nI num) ds one hf
theorem VS_s {d P o num p1 o1 p2 o2 : Nat} {c c2 : cdL} (d11 : d ≤ 11) (h : VS T n mem nn NW d P o num p1 o1 c) (k93 : tkk T n p1 ≠ 93) (h' : VI T n mem nn NW (d + 1) p1 o1 p2 o2 c2) : VS T n mem nn NW d P o num p2 o2 (c ++ c2) := by
  intro sv NV nm hs hn
  obtain ⟨S, h1, h2⟩ := h sv NV nm hs hn
  obtain ⟨c1, wt, rfl, h'⟩ := h'
  obtain ⟨y, h3, h4⟩ := h' sv NV nm hs hn
  refine ⟨_, pv_item h1 h3 (by omega), fun fs ds one hf => ?_⟩
  obtain ⟨su, w, one', e, r⟩ := h2 fs ds one hf
  refine ⟨S, wt, y, bl_mul, Rv_t r (Rv_t ?_ (h4 fs false true S (nI num) ds one' hf))⟩
  have es : stp T n mem nn NW (0, p1, o1, 2 :: fs) = .inl (1, p1, o1, 2 :: fs) := by
    rw [enE]
    unfold en
    rw [if_pos (show (2 :: fs).head? = some 2 from rfl), if_neg k93]
  have r1 := Rv_1 (sv := sv) (NV := NV) (x := ((false, true, su, w, nI num) :: ds, one')) es
  rw [vdt0, ven_c] at r1
  rw [if_pos (show (2 :: fs).head? = some 2 from rfl), if_neg k93, ← e] at r1
  exact r1
theorem VQ_e {d p o st num p1 o1 : Nat} {c : cdL} (d11 : d ≤ 11) (h : VS T n mem nn NW d (tke T n (tke T n p)) o num p1 o1 c) (k93 : tkk T n p1 = 93) (n0 : num ≠ 0) (o6 : o < 120) (k4 : ky T n p 4 = true) (k91 : tkk T n (tke T n p) = 91) : VQ T n mem nn NW d p o st num (tke T n p1) o1 (c ++ [(6, nI num)]) := by
  intro sv NV nm hs hn
  obtain ⟨S, h1, h2⟩ := h sv NV nm hs hn
  refine ⟨_, pv_quota h1, fun fs ds one hf => ⟨(1, tke T n (tke T n p), o + 1, 2 :: fs), ?_, ?_⟩⟩
  · unfold qt bls
    rw [if_neg n0, if_neg (by omega), if_neg (by rw [k4]; decide), if_neg (by omega), if_neg (by omega)]
  · obtain ⟨su, w, one', e, r⟩ := h2 fs ds one hf
    refine Rv_t r ?_
    have es : stp T n mem nn NW (0, p1, o1, 2 :: fs) = .inl (0, tke T n p1, o1, fs) := by
      rw [enE]
      unfold en
      rw [if_pos (show (2 :: fs).head? = some 2 from rfl), if_pos k93]
      rfl
    have r1 := Rv_1 (sv := sv) (NV := NV) (x := ((false, true, su, w, nI num) :: ds, one')) es
    rw [vdt0, ven_c] at r1
    rw [if_pos (show (2 :: fs).head? = some 2 from rfl), if_pos k93, ← e] at r1
    exact r1
end XSE
