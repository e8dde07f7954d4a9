section
section XSE
variable {T : Nat → Nat} {n mem nn : Nat} {NW : Nat → Nat}
/-- the data's run from a result on -/
def Rrv (T : Nat → Nat) (n nn : Nat) (NW : Nat → Nat) (sv : Nat) (NV : Nat → Bool) (mem : Nat) (r : aRs) (x : List vF × Bool) (s' : aSt) (x' : List vF × Bool) : Prop := ∃ s, r = .inl s ∧ Rv T n nn NW sv NV mem s x s' x'
section
variable (T : Nat → Nat) (n mem nn : Nat) (NW : Nat → Nat)
def VO (d p o p' o' : Nat) (c : cdL) : Prop := ∀ (sv : Nat) (NV : Nat → Bool) (nm : Int32), sv < 4096 → nmo nn NV nm → ∃ y, pv (nI sv) nm (25 - 2 * d) c (bl y) ∧ ∀ (fs : List Nat) (ds : List vF) (one : Bool), fs.length = d + 1 → Rrv T n nn NW sv NV mem (bo T n mem nn NW p o fs) (vbo T n nn NW sv NV p ds one) (0, p', o', fs) (ds, y)
def VQ (d p o st num p' o' : Nat) (c : cdL) : Prop := ∀ (sv : Nat) (NV : Nat → Bool) (nm : Int32), sv < 4096 → nmo nn NV nm → ∃ y, pv (nI sv) nm (25 - 2 * d) c (bl y) ∧ ∀ (fs : List Nat) (ds : List vF) (one : Bool), fs.length = d + 1 → Rrv T n nn NW sv NV mem (qt T n p o st num fs) (vL (nI num) :: ds, one) (0, p', o', fs) (ds, y)
def VA (d p o p' o' : Nat) (c : cdL) : Prop := ∀ (sv : Nat) (NV : Nat → Bool) (nm : Int32), sv < 4096 → nmo nn NV nm → ∃ y, pv (nI sv) nm (26 - 2 * d) c (bl y) ∧ ∀ (t : Nat) (fs : List Nat) (ov : Bool) (su w nd : Int32) (ds : List vF) (one : Bool), t ≠ 2 → fs.length = d → ∃ a' one', (a' && one') = y ∧ Rv T n nn NW sv NV mem (1, p, o, t :: fs) ((ov, true, su, w, nd) :: ds, one) (0, p', o', t :: fs) ((ov, a', su, w, nd) :: ds, one')
def VR (d p o p' o' : Nat) (c : cdL) : Prop := ∀ (sv : Nat) (NV : Nat → Bool) (nm : Int32), sv < 4096 → nmo nn NV nm → ∃ y, pv (nI sv) nm (27 - 2 * d) c (bl y) ∧ ∀ (t : Nat) (fs : List Nat) (su w nd : Int32) (ds : List vF) (one : Bool), t ≠ 2 → fs.length = d → ∃ ov' a' one', (ov' || (a' && one')) = y ∧ Rv T n nn NW sv NV mem (1, p, o, t :: fs) ((false, true, su, w, nd) :: ds, one) (0, p', o', t :: fs) ((ov', a', su, w, nd) :: ds, one')
def VI (d p o p' o' : Nat) (c : cdL) : Prop := ∃ c1 wt, c = c1 ++ [(5, wt)] ∧ ∀ (sv : Nat) (NV : Nat → Bool) (nm : Int32), sv < 4096 → nmo nn NV nm → ∃ y, pv (nI sv) nm (25 - 2 * d) c1 (bl y) ∧ ∀ (fs : List Nat) (ov av : Bool) (su nd : Int32) (ds : List vF) (one : Bool), fs.length = d → Rv T n nn NW sv NV mem (1, p, o, 2 :: fs) ((ov, av, su, 1, nd) :: ds, one) (0, p', o', 2 :: fs) ((ov, av, su, wt, nd) :: ds, y)
def VS (d P o num p' o' : Nat) (c : cdL) : Prop := ∀ (sv : Nat) (NV : Nat → Bool) (nm : Int32), sv < 4096 → nmo nn NV nm → ∃ S, pv (nI sv) nm (25 - 2 * d) c S ∧ ∀ (fs : List Nat) (ds : List vF) (one : Bool), fs.length = d + 1 → ∃ su w one', S = (if one' = true then su + w else su) ∧ Rv T n nn NW sv NV mem (1, P, o + 1, 2 :: fs) (vL (nI num) :: ds, one) (0, p', o', 2 :: fs) ((false, true, su, w, nI num) :: ds, one')
end
theorem vdt1 {p o t : Nat} {fs : List Nat} {sv : Nat} {NV : Nat → Bool} {x1 : List vF} {x2 : Bool} : vdt T n nn NW sv NV (1, p, o, t :: fs) (x1, x2) = vbg T n nn NW sv NV p (t :: fs) x1 x2 := by
  unfold vdt
  rw [if_neg (by intro z; cases z), if_pos rfl]
theorem vdt0 {p o t : Nat} {fs : List Nat} {sv : Nat} {NV : Nat → Bool} {x1 : List vF} {x2 : Bool} : vdt T n nn NW sv NV (0, p, o, t :: fs) (x1, x2) = ven T n p (t :: fs) x1 x2 := by
  unfold vdt
  rw [if_neg (by intro z; cases z), if_neg (show ¬ (0 = 1) by decide)]
theorem ven_c {p : Nat} {fs : List Nat} {o a one : Bool} {su w nd : Int32} {r : List vF} : ven T n p fs ((o, a, su, w, nd) :: r) one = if fs.head? = some 2 then (if tkk T n p = 93 then (r, xe_c .ge (if one = true then su + w else su) nd) else ((o, a, if one = true then su + w else su, 1, nd) :: r, one)) else if ky T n p 2 = true then ((o, a && one, su, w, nd) :: r, one) else if ky T n p 3 = true then ((o || (a && one), true, su, w, nd) :: r, one) else (r, o || (a && one)) := rfl
theorem vbgO {p t : Nat} {fs : List Nat} {sv : Nat} {NV : Nat → Bool} {ds : List vF} {one : Bool} (ht : t ≠ 2) : vbg T n nn NW sv NV p (t :: fs) ds one = vbo T n nn NW sv NV p ds one := by
  unfold vbg
  rw [if_neg]
  rintro ⟨e, -⟩
  exact ht (Option.some.inj e)
theorem Rv_r {s s1 : aSt} {r : aRs} {x x1 : List vF × Bool} {sv : Nat} {NV : Nat → Bool} (h : stp T n mem nn NW s = r) (a : Rrv T n nn NW sv NV mem r (vdt T n nn NW sv NV s x) s1 x1) : Rv T n nn NW sv NV mem s x s1 x1 := by
  obtain ⟨s2, e, b⟩ := a
  exact Rv_t (Rv_1 (h.trans e)) b
theorem VO_mem {d p o : Nat} (hl : lone T n p = true) (hm : T (tks T n p) - 97 < mem) (m12 : mem ≤ 12) (o6 : o < 120) (d12 : d ≤ 12) : VO T n mem nn NW d p o (tke T n p) (o + 1) [(0, nI (T (tks T n p) - 97))] := by
  intro sv NV nm hs hn
  have k2 := (of_decide_eq_true hl).1
  refine ⟨sv.testBit (T (tks T n p) - 97), ?_, fun fs ds one hf => ⟨(0, tke T n p, o + 1, fs), ?_, ?_⟩⟩
  · have := pv_m (sv := nI sv) (nm := nm) (v := nI (T (tks T n p) - 97))
    rw [nI_b0 (by omega) (by omega), ← bl_nI] at this
    exact pv_le this (by omega)
  · unfold bo
    rw [if_neg (by omega), if_neg (by omega), if_pos hl, if_neg (by omega), if_neg (by omega)]
  · unfold vbo
    rw [if_neg (by omega), if_neg (by omega), if_pos hl]
    exact Rv_0
theorem lone_n {p : Nat} (h : nmt T n p = true) : lone T n p = false := by
  have h1 := of_decide_eq_true h
  refine decide_eq_false (fun z => ?_)
  have := z.2
  have := h1.2.1
  omega
theorem VO_nam {d p o : Nat} (hl : nmt T n p = true) (hh : hasn nn NW (tkw T n p) = true) (hk : nmi nn NW (tkw T n p) < nn) (n16 : nn ≤ 16) (o6 : o < 120) (d12 : d ≤ 12) : VO T n mem nn NW d p o (tke T n p) (o + 1) [(1, nI (nmi nn NW (tkw T n p)))] := by
  intro sv NV nm hs hn
  have k2 := (of_decide_eq_true hl).1
  refine ⟨NV (nmi nn NW (tkw T n p)), ?_, fun fs ds one hf => ⟨(0, tke T n p, o + 1, fs), ?_, ?_⟩⟩
  · have := pv_n (sv := nI sv) (nm := nm) (v := nI (nmi nn NW (tkw T n p)))
    rw [nmo_b hn n16 hk] at this
    exact pv_le this (by omega)
  · unfold bo
    rw [if_neg (by omega), if_neg (by omega), if_neg (by rw [lone_n hl]; decide), if_pos hl, if_neg (by rw [hh]; decide), if_neg (by omega)]
  · unfold vbo
    rw [if_neg (by omega), if_neg (by omega), if_neg (by rw [lone_n hl]; decide)]
    exact Rv_0
theorem VO_par {d p o p' o' : Nat} {c : cdL} (k40 : tkk T n p = 40) (o6 : o < 120) (d12 : d < 12) (h : VR T n mem nn NW (d + 1) (tke T n p) (o + 1) p' o' c) (k2 : ky T n p' 2 = false) (k3 : ky T n p' 3 = false) (k41 : tkk T n p' = 41) : VO T n mem nn NW d p o (tke T n p') o' c := by
  intro sv NV nm hs hn
  obtain ⟨y, h1, h2⟩ := h sv NV nm hs hn
  refine ⟨y, pv_le h1 (by omega), fun fs ds one hf => ⟨(1, tke T n p, o + 1, 1 :: fs), ?_, ?_⟩⟩
  · unfold bo
    rw [if_neg (by omega), if_pos k40, if_neg (by omega), if_neg (by omega)]
  · unfold vbo
    rw [if_neg (by omega), if_pos k40]
    obtain ⟨ov, a, one', e, r⟩ := h2 1 fs 0 1 0 ds one (by decide) hf
    refine Rv_t r ?_
    have es : stp T n mem nn NW (0, p', o', 1 :: fs) = .inl (0, tke T n p', o', fs) := by
      rw [enE]
      unfold en
      rw [if_neg (by intro z; cases z), if_neg (by rw [k2]; decide), if_neg (by rw [k3]; decide), if_neg (by intro z; cases z), if_pos k41]
      rfl
    have := Rv_1 (sv := sv) (NV := NV) (x := ((ov, a, (0 : Int32), (1 : Int32), (0 : Int32)) :: ds, one')) es
    rw [vdt0, ven_c] at this
    rw [if_neg (by intro z; cases z), if_neg (by rw [k2]; decide), if_neg (by rw [k3]; decide)] at this
    rw [e] at this
    exact this
theorem VO_quo {d p o p' o' : Nat} {c : cdL} (k3 : tkk T n p = 3) (h : VQ T n mem nn NW d (tke T n p) o (tks T n p) (tkn T n p) p' o' c) : VO T n mem nn NW d p o p' o' c := by
  intro sv NV nm hs hn
  obtain ⟨y, h1, h2⟩ := h sv NV nm hs hn
  refine ⟨y, h1, fun fs ds one hf => ?_⟩
  rw [show bo T n mem nn NW p o fs = qt T n (tke T n p) o (tks T n p) (tkn T n p) fs from by unfold bo qt; rw [if_pos k3]]
  rw [show vbo T n nn NW sv NV p ds one = (vL (nI (tkn T n p)) :: ds, one) from by unfold vbo; rw [if_pos k3]]
  exact h2 fs ds one hf
theorem VA_1 {d p o p' o' : Nat} {c : cdL} (d12 : d ≤ 12) (h : VO T n mem nn NW d p o p' o' c) : VA T n mem nn NW d p o p' o' c := by
  intro sv NV nm hs hn
  obtain ⟨y, h1, h2⟩ := h sv NV nm hs hn
  refine ⟨y, pv_le h1 (by omega), fun t fs ov su w nd ds one ht hf => ⟨true, y, Bool.true_and y, ?_⟩⟩
  refine Rv_r (bgO ht) ?_
  rw [vdt1, vbgO ht]
  exact h2 (t :: fs) _ one (by rw [List.length_cons, hf])
theorem VA_s {d p o p1 o1 p2 o2 : Nat} {v : Int32} {c c2 : cdL} (d12 : d ≤ 12) (h : VA T n mem nn NW d p o p1 o1 c) (k2 : ky T n p1 2 = true) (h' : VO T n mem nn NW d (tke T n p1) o1 p2 o2 c2) : VA T n mem nn NW d p o p2 o2 (c ++ (c2 ++ [(2, v)])) := by
  intro sv NV nm hs hn
  obtain ⟨y, h1, h2⟩ := h sv NV nm hs hn
  obtain ⟨z, h3, h4⟩ := h' sv NV nm hs hn
  refine ⟨y && z, by rw [← bl_and]; exact pv_and h1 h3 (by omega), fun t fs ov su w nd ds one ht hf => ?_⟩
  obtain ⟨a, one', e, r⟩ := h2 t fs ov su w nd ds one ht hf
  refine ⟨y, z, rfl, Rv_t r ?_⟩
  have es : stp T n mem nn NW (0, p1, o1, t :: fs) = .inl (1, tke T n p1, o1, t :: fs) := by
    rw [enE]
    unfold en
    rw [if_neg (show ¬ (t :: fs).head? = some 2 from fun z => ht (Option.some.inj z)), if_pos k2]
  have r1 := Rv_1 (sv := sv) (NV := NV) (x := ((ov, a, su, w, nd) :: ds, one')) es
  rw [vdt0, ven_c] at r1
  rw [if_neg (show ¬ (t :: fs).head? = some 2 from fun z => ht (Option.some.inj z)), if_pos k2, e] at r1
  refine Rv_t r1 (Rv_r (bgO ht) ?_)
  rw [vdt1, vbgO ht]
  exact h4 (t :: fs) _ one' (by rw [List.length_cons, hf])
theorem VR_1 {d p o p' o' : Nat} {c : cdL} (d12 : d ≤ 12) (h : VA T n mem nn NW d p o p' o' c) : VR T n mem nn NW d p o p' o' c := by
  intro sv NV nm hs hn
  obtain ⟨y, h1, h2⟩ := h sv NV nm hs hn
  refine ⟨y, pv_le h1 (by omega), fun t fs su w nd ds one ht hf => ?_⟩
  obtain ⟨a, one', e, r⟩ := h2 t fs false su w nd ds one ht hf
  exact ⟨false, a, one', by rw [e]; exact Bool.false_or y, r⟩
theorem VR_s {d p o p1 o1 p2 o2 : Nat} {v : Int32} {c c2 : cdL} (d12 : d ≤ 12) (h : VR T n mem nn NW d p o p1 o1 c) (k2 : ky T n p1 2 = false) (k3 : ky T n p1 3 = true) (h' : VA T n mem nn NW d (tke T n p1) o1 p2 o2 c2) : VR T n mem nn NW d p o p2 o2 (c ++ (c2 ++ [(3, v)])) := by
  intro sv NV nm hs hn
  obtain ⟨y, h1, h2⟩ := h sv NV nm hs hn
  obtain ⟨z, h3, h4⟩ := h' sv NV nm hs hn
  refine ⟨y || z, by rw [← bl_or]; exact pv_or h1 h3 (by omega), fun t fs su w nd ds one ht hf => ?_⟩
  obtain ⟨ov, a, one', e, r⟩ := h2 t fs su w nd ds one ht hf
  obtain ⟨a2, one2, e2, r2⟩ := h4 t fs y su w nd ds one' ht hf
  refine ⟨y, a2, one2, by rw [e2], Rv_t r (Rv_t ?_ r2)⟩
  have es : stp T n mem nn NW (0, p1, o1, t :: fs) = .inl (1, tke T n p1, o1, t :: fs) := by
    rw [enE]
    unfold en
    rw [if_neg (show ¬ (t :: fs).head? = some 2 from fun z => ht (Option.some.inj z)), if_neg (by rw [k2]; decide), if_pos k3]
  have r1 := Rv_1 (sv := sv) (NV := NV) (x := ((ov, a, su, w, nd) :: ds, one')) es
  rw [vdt0, ven_c] at r1
  rw [if_neg (show ¬ (t :: fs).head? = some 2 from fun z => ht (Option.some.inj z)), if_neg (by rw [k2]; decide), if_pos k3, e] at r1
  exact r1
theorem VI_1 {d p o p' o' : Nat} {c : cdL} (k3 : tkk T n p ≠ 3) (h : VO T n mem nn NW d p o p' o' c) : VI T n mem nn NW d p o p' o' (c ++ [(5, 1)]) := by
  refine ⟨c, 1, rfl, fun sv NV nm hs hn => ?_⟩
  obtain ⟨y, h1, h2⟩ := h sv NV nm hs hn
  refine ⟨y, h1, fun fs ov av su nd ds one hf => ?_⟩
  refine Rv_r (r := bo T n mem nn NW p o (2 :: fs)) (by rw [bgI, if_neg k3]) ?_
  rw [vdt1]
  unfold vbg
  rw [if_neg (fun z => k3 z.2)]
  exact h2 (2 :: fs) _ one (by rw [List.length_cons, hf])
theorem VI_w {d p o p' o' : Nat} {c : cdL} (k3 : tkk T n p = 3) (k42 : tkk T n (tke T n p) = 42) (h : VO T n mem nn NW d (tke T n (tke T n p)) o p' o' c) : VI T n mem nn NW d p o p' o' (c ++ [(5, nI (tkn T n p))]) := by
  refine ⟨c, nI (tkn T n p), rfl, fun sv NV nm hs hn => ?_⟩
  obtain ⟨y, h1, h2⟩ := h sv NV nm hs hn
  refine ⟨y, h1, fun fs ov av su nd ds one hf => ?_⟩
  refine Rv_r (r := bo T n mem nn NW (tke T n (tke T n p)) o (2 :: fs)) (by rw [bgI, if_pos k3]; unfold bi; rw [if_pos k42]) ?_
  rw [vdt1]
  unfold vbg
  rw [if_pos ⟨rfl, k3⟩]
  unfold vbi
  rw [if_pos k42]
  exact h2 (2 :: fs) _ one (by rw [List.length_cons, hf])
theorem VI_q {d p o p' o' : Nat} {c : cdL} (k3 : tkk T n p = 3) (k42 : tkk T n (tke T n p) ≠ 42) (k4 : ky T n (tke T n p) 4 = true) (h : VQ T n mem nn NW d (tke T n p) o (tks T n p) (tkn T n p) p' o' c) : VI T n mem nn NW d p o p' o' (c ++ [(5, 1)]) := by
  refine ⟨c, 1, rfl, fun sv NV nm hs hn => ?_⟩
  obtain ⟨y, h1, h2⟩ := h sv NV nm hs hn
  refine ⟨y, h1, fun fs ov av su nd ds one hf => ?_⟩
  refine Rv_r (r := qt T n (tke T n p) o (tks T n p) (tkn T n p) (2 :: fs)) (by rw [bgI, if_pos k3]; unfold bi qt; rw [if_neg k42, if_neg (by rw [k4]; decide)]) ?_
  rw [vdt1]
  unfold vbg
  rw [if_pos ⟨rfl, k3⟩]
  unfold vbi
  rw [if_neg k42]
  exact h2 (2 :: fs) _ one (by rw [List.length_cons, hf])
theorem VS_1 {d P o num p1 o1 : Nat} {v : Int32} {c : cdL} (d11 : d ≤ 11) (h : VI T n mem nn NW (d + 1) P (o + 1) p1 o1 c) : VS T n mem nn NW d P o num p1 o1 ([(4, v)] ++ c) := by
  intro sv NV nm hs hn
  obtain ⟨c1, wt, rfl, h⟩ := h
  obtain ⟨y, h1, h2⟩ := h sv NV nm hs hn
  refine ⟨_, pv_item (pv_le (pv_begin (v := v)) (by omega)) h1 (by omega), fun fs ds one hf => ⟨0, wt, y, bl_mul, ?_⟩⟩
  exact h2 fs false true 0 (nI num) ds one hf
theorem VS_s {d P o num p1 o1 p2 o2 : Nat} {c c2 : cdL} (d11 : d ≤ 11) (h : VS T n mem nn NW d P o num p1 o1 c) (k93 : tkk T n p1 ≠ 93) (h' : VI T n mem nn NW (d + 1) p1 o1 p2 o2 c2) : VS T n mem nn NW d P o num p2 o2 (c ++ c2) := by
  intro sv NV nm hs hn
  obtain ⟨S, h1, h2⟩ := h sv NV nm hs hn
  obtain ⟨c1, wt, rfl, h'⟩ := h'
  obtain ⟨y, h3, h4⟩ := h' sv NV nm hs hn
  refine ⟨_, pv_item h1 h3 (by omega), fun fs ds one hf => ?_⟩
  obtain ⟨su, w, one', e, r⟩ := h2 fs ds one hf
  refine ⟨S, wt, y, bl_mul, Rv_t r (Rv_t ?_ (h4 fs false true S (nI num) ds one' hf))⟩
  have es : stp T n mem nn NW (0, p1, o1, 2 :: fs) = .inl (1, p1, o1, 2 :: fs) := by
    rw [enE]
    unfold en
    rw [if_pos (show (2 :: fs).head? = some 2 from rfl), if_neg k93]
  have r1 := Rv_1 (sv := sv) (NV := NV) (x := ((false, true, su, w, nI num) :: ds, one')) es
  rw [vdt0, ven_c] at r1
  rw [if_pos (show (2 :: fs).head? = some 2 from rfl), if_neg k93, ← e] at r1
  exact r1
theorem VQ_e {d p o st num p1 o1 : Nat} {c : cdL} (d11 : d ≤ 11) (h : VS T n mem nn NW d (tke T n (tke T n p)) o num p1 o1 c) (k93 : tkk T n p1 = 93) (n0 : num ≠ 0) (o6 : o < 120) (k4 : ky T n p 4 = true) (k91 : tkk T n (tke T n p) = 91) : VQ T n mem nn NW d p o st num (tke T n p1) o1 (c ++ [(6, nI num)]) := by
  intro sv NV nm hs hn
  obtain ⟨S, h1, h2⟩ := h sv NV nm hs hn
  refine ⟨_, pv_quota h1, fun fs ds one hf => ⟨(1, tke T n (tke T n p), o + 1, 2 :: fs), ?_, ?_⟩⟩
  · unfold qt bls
    rw [if_neg n0, if_neg (by omega), if_neg (by rw [k4]; decide), if_neg (by omega), if_neg (by omega)]
  · obtain ⟨su, w, one', e, r⟩ := h2 fs ds one hf
    refine Rv_t r ?_
    have es : stp T n mem nn NW (0, p1, o1, 2 :: fs) = .inl (0, tke T n p1, o1, fs) := by
      rw [enE]
      unfold en
      rw [if_pos (show (2 :: fs).head? = some 2 from rfl), if_pos k93]
      rfl
    have r1 := Rv_1 (sv := sv) (NV := NV) (x := ((false, true, su, w, nI num) :: ds, one')) es
    rw [vdt0, ven_c] at r1
    rw [if_pos (show (2 :: fs).head? = some 2 from rfl), if_pos k93, ← e] at r1
    exact r1
end XSE
end
section
section XPR
variable {T : Nat → Nat} {n mem nn : Nat} {NM : Nat → Nat × Nat}
def c38 (c _k : Nat) : Bool := Nat.beq c 8 || Nat.beq c 3
theorem sS_38 {c k : Nat} (h : c38 c k = false) : sS c k = false := by
  unfold sS
  rw [(or_f h).1]
  rfl
theorem fS_38 {c k : Nat} (h : c38 c k = false) : fS c k = false := by
  unfold fS
  rw [(or_f h).2]
  rfl
theorem pas {h : xh_H} {P X Y : cdL} (e : ptx h (P ++ X ++ Y)) : ptx h (P ++ (X ++ Y)) := by rw [← List.append_assoc]; exact e
theorem ptx_n {h h' : xh_H} {P : cdL} (p : ptx h P) (g : fx c38 fN h h') : ptx h' P := ptx_f p g rfl (fun _ => rfl) (fun _ => rfl)
set_option maxRecDepth 100000 in
set_option maxHeartbeats 4000000 in
theorem tw1_n {f p o d : Nat} {h : xh_H} (c0 : cr h T n mem nn NM p o d) (hq : a_rq a_tb h) : xq f xi_X4_takeWord xmi_X4_takeWord 0 [(0, .ref 3), (1, .float 3)] [] h (fun v h' => fx c38 fN h h') := by
  have hT : ∀ k, k < n → T k < 256 := fun k hk' => (c0.1.2.2 k hk').1
  have kb := tkk_lt (T := T) (n := n) (p := p) hT
  have n6 := c0.1.2.1
  have s6 := tks_le (T := T) (n := n) (p := p)
  have mm := c0.2.2.2.2.1
  have n16 := c0.2.2.2.2.2.2.2.2.2.1.2.1
  have o121 := c0.2.2.2.2.2.2.1
  have d13 := c0.2.2.2.2.2.2.2.2.1
  refine xq_n 5 [0, 1] [(0, .ref 3), (1, .float 3)] [.float 3, .ref 8] h [] 5 hq rfl trivial (fun hq => ?_)
  refine xq_run hq rfl rfl (iw1_q (c0.1) (c0.2.1) hq) ?_
  rintro v1 h_v1 ⟨rfl, rfl⟩
  cases b2 : (ky T n p 1) with
  | true =>
    have db2 := of_decide_eq_true b2
    refine xq_n 28 [0, 1] [(0, .ref 3), (1, .float 3)] [.ref 8] h [true] 5 hq rfl ⟨rfl, trivial⟩ (fun hq => ?_)
    have nz3 : tkk T n p ≠ 0 := by omega
    have le3 := tke_le nz3
    refine xq_run hq rfl rfl (adv_q hq hT (c0.1) (c0.2.2.1) ((c0.2.1.2.2.1 (by omega)).1) (by omega)) ?_
    rintro v3 h3 ⟨rfl, g3, t3⟩
    have hq := fx_q g3 hq
    have kb3 := tkk_lt (T := T) (n := n) (p := tke T n p) hT
    have s63 := tks_le (T := T) (n := n) (p := tke T n p)
    refine xq_n 32 [] [] [.int (Int32.ofInt 1)] h3 [] 3 hq rfl trivial (fun hq => ?_)
    exact xq_ret rfl rfl rfl (fx_t (fx_0) (fx_w g3 (fun _ _ => sS_38) (fun _ _ z => z)))
  | false =>
    have db2 := of_decide_eq_false b2
    refine xq_n 20 [0, 1] [(0, .ref 3), (1, .float 3)] [.int (xg 0 h.2.1 8 4), .int (Int32.ofInt 1), .ref 3] h [false] 8 hq rfl ⟨rfl, trivial⟩ (fun hq => ?_)
    rw [show (xg 0 h.2.1 8 4) = (nI (tks T n p)) from c0.2.1.2.1]
    refine xq_run hq rfl rfl (fail_q (k := 1) (pl := (tks T n p)) hq) ?_
    rintro v4 h4 ⟨rfl, g4, f4, l4⟩
    have hq := fx_q g4 hq
    exact xq_ret rfl rfl rfl (fx_t (fx_0) (fx_w g4 (fun _ _ => fS_38) (fun _ _ z => z)))
set_option maxRecDepth 100000 in
set_option maxHeartbeats 4000000 in
theorem tw4_n {f p o d : Nat} {h : xh_H} (c0 : cr h T n mem nn NM p o d) (hq : a_rq a_tb h) : xq f xi_X4_takeWord xmi_X4_takeWord 0 [(0, .ref 3), (1, .float 6)] [] h (fun v h' => fx c38 fN h h') := by
  have hT : ∀ k, k < n → T k < 256 := fun k hk' => (c0.1.2.2 k hk').1
  have kb := tkk_lt (T := T) (n := n) (p := p) hT
  have n6 := c0.1.2.1
  have s6 := tks_le (T := T) (n := n) (p := p)
  have mm := c0.2.2.2.2.1
  have n16 := c0.2.2.2.2.2.2.2.2.2.1.2.1
  have o121 := c0.2.2.2.2.2.2.1
  have d13 := c0.2.2.2.2.2.2.2.2.1
  refine xq_n 5 [0, 1] [(0, .ref 3), (1, .float 6)] [.float 6, .ref 8] h [] 5 hq rfl trivial (fun hq => ?_)
  refine xq_run hq rfl rfl (iw4_q (c0.1) (c0.2.1) hq) ?_
  rintro v1 h_v1 ⟨rfl, rfl⟩
  cases b2 : (ky T n p 4) with
  | true =>
    have db2 := of_decide_eq_true b2
    refine xq_n 28 [0, 1] [(0, .ref 3), (1, .float 6)] [.ref 8] h [true] 5 hq rfl ⟨rfl, trivial⟩ (fun hq => ?_)
    have nz3 : tkk T n p ≠ 0 := by omega
    have le3 := tke_le nz3
    refine xq_run hq rfl rfl (adv_q hq hT (c0.1) (c0.2.2.1) ((c0.2.1.2.2.1 (by omega)).1) (by omega)) ?_
    rintro v3 h3 ⟨rfl, g3, t3⟩
    have hq := fx_q g3 hq
    have kb3 := tkk_lt (T := T) (n := n) (p := tke T n p) hT
    have s63 := tks_le (T := T) (n := n) (p := tke T n p)
    refine xq_n 32 [] [] [.int (Int32.ofInt 1)] h3 [] 3 hq rfl trivial (fun hq => ?_)
    exact xq_ret rfl rfl rfl (fx_t (fx_0) (fx_w g3 (fun _ _ => sS_38) (fun _ _ z => z)))
  | false =>
    have db2 := of_decide_eq_false b2
    refine xq_n 20 [0, 1] [(0, .ref 3), (1, .float 6)] [.int (xg 0 h.2.1 8 4), .int (Int32.ofInt 1), .ref 3] h [false] 8 hq rfl ⟨rfl, trivial⟩ (fun hq => ?_)
    rw [show (xg 0 h.2.1 8 4) = (nI (tks T n p)) from c0.2.1.2.1]
    refine xq_run hq rfl rfl (fail_q (k := 1) (pl := (tks T n p)) hq) ?_
    rintro v4 h4 ⟨rfl, g4, f4, l4⟩
    have hq := fx_q g4 hq
    exact xq_ret rfl rfl rfl (fx_t (fx_0) (fx_w g4 (fun _ _ => fS_38) (fun _ _ z => z)))
set_option maxRecDepth 100000 in
set_option maxHeartbeats 4000000 in
theorem ts_n {f p o d c : Nat} {h : xh_H} (c4 : 40 ≤ c) (c5 : c < 256) (c0 : cr h T n mem nn NM p o d) (hq : a_rq a_tb h) : xq f xi_X4_takeSign xmi_X4_takeSign 0 [(0, .ref 3), (1, .int (nI c))] [] h (fun v h' => fx c38 fN h h') := by
  have hT : ∀ k, k < n → T k < 256 := fun k hk' => (c0.1.2.2 k hk').1
  have kb := tkk_lt (T := T) (n := n) (p := p) hT
  have n6 := c0.1.2.1
  have s6 := tks_le (T := T) (n := n) (p := p)
  have mm := c0.2.2.2.2.1
  have n16 := c0.2.2.2.2.2.2.2.2.2.1.2.1
  have o121 := c0.2.2.2.2.2.2.1
  have d13 := c0.2.2.2.2.2.2.2.2.1
  cases c1 : xe_c .eq (nI (tkk T n p)) (nI c) with
  | true =>
    have z1 : (tkk T n p) = c := nq_eqt (a := (tkk T n p)) (b := c) (by omega) (by omega) c1
    refine xq_n 28 [0, 1] [(0, .ref 3), (1, .int (nI c))] [.ref 8] h [true] 9 hq rfl ⟨(show xe_c .eq (xg 0 h.2.1 8 3) (nI c) = true by rw [show (xg 0 h.2.1 8 3) = (nI (tkk T n p)) from c0.2.1.1]; exact c1), trivial⟩ (fun hq => ?_)
    have nz2 : tkk T n p ≠ 0 := by omega
    have le2 := tke_le nz2
    refine xq_run hq rfl rfl (adv_q hq hT (c0.1) (c0.2.2.1) ((c0.2.1.2.2.1 (by omega)).1) (by omega)) ?_
    rintro v2 h2 ⟨rfl, g2, t2⟩
    have hq := fx_q g2 hq
    have kb2 := tkk_lt (T := T) (n := n) (p := tke T n p) hT
    have s62 := tks_le (T := T) (n := n) (p := tke T n p)
    refine xq_n 32 [] [] [.int (Int32.ofInt 1)] h2 [] 3 hq rfl trivial (fun hq => ?_)
    exact xq_ret rfl rfl rfl (fx_t (fx_0) (fx_w g2 (fun _ _ => sS_38) (fun _ _ z => z)))
  | false =>
    have z1 : (tkk T n p) ≠ c := nq_eqf (a := (tkk T n p)) (b := c) (by omega) (by omega) c1
    refine xq_n 20 [0, 1] [(0, .ref 3), (1, .int (nI c))] [.int (xg 0 h.2.1 8 4), .int (Int32.ofInt 1), .ref 3] h [false] 12 hq rfl ⟨(show xe_c .eq (xg 0 h.2.1 8 3) (nI c) = false by rw [show (xg 0 h.2.1 8 3) = (nI (tkk T n p)) from c0.2.1.1]; exact c1), trivial⟩ (fun hq => ?_)
    rw [show (xg 0 h.2.1 8 4) = (nI (tks T n p)) from c0.2.1.2.1]
    refine xq_run hq rfl rfl (fail_q (k := 1) (pl := (tks T n p)) hq) ?_
    rintro v3 h3 ⟨rfl, g3, f3, l3⟩
    have hq := fx_q g3 hq
    exact xq_ret rfl rfl rfl (fx_t (fx_0) (fx_w g3 (fun _ _ => fS_38) (fun _ _ z => z)))
set_option maxRecDepth 100000 in
set_option maxHeartbeats 4000000 in
theorem to_n {f p o d c : Nat} {h : xh_H} (c4 : 40 ≤ c) (c5 : c < 256) (c0 : cr h T n mem nn NM p o d) (hq : a_rq a_tb h) : xq f xi_X4_takeOpening xmi_X4_takeOpening 0 [(0, .ref 3), (1, .int (nI c))] [] h (fun v h' => fx c38 fN h h') := by
  have hT : ∀ k, k < n → T k < 256 := fun k hk' => (c0.1.2.2 k hk').1
  have kb := tkk_lt (T := T) (n := n) (p := p) hT
  have n6 := c0.1.2.1
  have s6 := tks_le (T := T) (n := n) (p := p)
  have mm := c0.2.2.2.2.1
  have n16 := c0.2.2.2.2.2.2.2.2.2.1.2.1
  have o121 := c0.2.2.2.2.2.2.1
  have d13 := c0.2.2.2.2.2.2.2.2.1
  cases c1 : xe_c .eq (nI (tkk T n p)) (nI c) with
  | true =>
    have z1 : (tkk T n p) = c := nq_eqt (a := (tkk T n p)) (b := c) (by omega) (by omega) c1
    cases c2 : xe_c .lt (nI d) 12 with
    | true =>
      have z2 : d < 12 := nq_ltt (a := d) (b := 12) (by omega) (by omega) c2
      refine xq_n 60 [0, 1] [(0, .ref 3), (1, .int (nI c))] [.ref 8] (xh_ui h 3 6 ((xg 0 h.2.1 3 6) + (Int32.ofInt 1))) [true, true] 19 hq rfl ⟨(show xe_c .eq (xg 0 h.2.1 8 3) (nI c) = true by rw [show (xg 0 h.2.1 8 3) = (nI (tkk T n p)) from c0.2.1.1]; exact c1), (show xe_c .lt (xg 0 h.2.1 3 6) 12 = true by rw [show (xg 0 h.2.1 3 6) = (nI d) from c0.2.2.2.2.2.2.2.1]; exact c2), trivial⟩ (fun _ => ?_)
      rw [show (xg 0 h.2.1 3 6) = (nI d) from c0.2.2.2.2.2.2.2.1]
      rw [show ((nI d) + (Int32.ofInt 1)) = nI (d + 1) from nI_1 _]
      have hq : a_rq a_tb (xh_ui h 3 6 (nI (d + 1))) := a_rq_ui hq
      have nz3 : tkk T n p ≠ 0 := by omega
      have le3 := tke_le nz3
      refine xq_run hq rfl rfl (adv_q hq hT (ct_f (S := cS) (L := fN) (c0.1) (fx_ui fx_0 rfl) rfl (fun _ => rfl)) ((gx_o (by decide)).trans (c0.2.2.1)) ((gx_o (by decide)).trans ((c0.2.1.2.2.1 (by omega)).1)) (by omega)) ?_
      rintro v3 h3 ⟨rfl, g3, t3⟩
      have hq := fx_q g3 hq
      have kb3 := tkk_lt (T := T) (n := n) (p := tke T n p) hT
      have s63 := tks_le (T := T) (n := n) (p := tke T n p)
      refine xq_n 64 [] [] [.int (Int32.ofInt 1)] h3 [] 3 hq rfl trivial (fun hq => ?_)
      exact xq_ret rfl rfl rfl (fx_t (fx_ui (fx_0) rfl) (fx_w g3 (fun _ _ => sS_38) (fun _ _ z => z)))
    | false =>
      have z2 : d ≥ 12 := nq_ltf (a := d) (b := 12) (by omega) (by omega) c2
      refine xq_n 42 [0, 1] [(0, .ref 3), (1, .int (nI c))] [.int (xg 0 h.2.1 8 4), .int (Int32.ofInt 4), .ref 3] h [true, false] 16 hq rfl ⟨(show xe_c .eq (xg 0 h.2.1 8 3) (nI c) = true by rw [show (xg 0 h.2.1 8 3) = (nI (tkk T n p)) from c0.2.1.1]; exact c1), (show xe_c .lt (xg 0 h.2.1 3 6) 12 = false by rw [show (xg 0 h.2.1 3 6) = (nI d) from c0.2.2.2.2.2.2.2.1]; exact c2), trivial⟩ (fun hq => ?_)
      rw [show (xg 0 h.2.1 8 4) = (nI (tks T n p)) from c0.2.1.2.1]
      refine xq_run hq rfl rfl (fail_q (k := 4) (pl := (tks T n p)) hq) ?_
      rintro v4 h4 ⟨rfl, g4, f4, l4⟩
      have hq := fx_q g4 hq
      exact xq_ret rfl rfl rfl (fx_t (fx_0) (fx_w g4 (fun _ _ => fS_38) (fun _ _ z => z)))
  | false =>
    have z1 : (tkk T n p) ≠ c := nq_eqf (a := (tkk T n p)) (b := c) (by omega) (by omega) c1
    refine xq_n 20 [0, 1] [(0, .ref 3), (1, .int (nI c))] [.int (xg 0 h.2.1 8 4), .int (Int32.ofInt 1), .ref 3] h [false] 12 hq rfl ⟨(show xe_c .eq (xg 0 h.2.1 8 3) (nI c) = false by rw [show (xg 0 h.2.1 8 3) = (nI (tkk T n p)) from c0.2.1.1]; exact c1), trivial⟩ (fun hq => ?_)
    rw [show (xg 0 h.2.1 8 4) = (nI (tks T n p)) from c0.2.1.2.1]
    refine xq_run hq rfl rfl (fail_q (k := 1) (pl := (tks T n p)) hq) ?_
    rintro v5 h5 ⟨rfl, g5, f5, l5⟩
    have hq := fx_q g5 hq
    exact xq_ret rfl rfl rfl (fx_t (fx_0) (fx_w g5 (fun _ _ => fS_38) (fun _ _ z => z)))
set_option maxRecDepth 100000 in
set_option maxHeartbeats 4000000 in
theorem co_n {f p o d st : Nat} {h : xh_H} (o6 : o ≤ 120) (c0 : cr h T n mem nn NM p o d) (hq : a_rq a_tb h) : xq f xi_X4_countOne xmi_X4_countOne 0 [(0, .ref 3), (1, .int (nI st))] [] h (fun v h' => fx c38 fN h h') := by
  have hT : ∀ k, k < n → T k < 256 := fun k hk' => (c0.1.2.2 k hk').1
  have kb := tkk_lt (T := T) (n := n) (p := p) hT
  have n6 := c0.1.2.1
  have s6 := tks_le (T := T) (n := n) (p := p)
  have mm := c0.2.2.2.2.1
  have n16 := c0.2.2.2.2.2.2.2.2.2.1.2.1
  have o121 := c0.2.2.2.2.2.2.1
  have d13 := c0.2.2.2.2.2.2.2.2.1
  cases c1 : xe_c .le (nI (o + 1)) 120 with
  | true =>
    have z1 : (o + 1) ≤ 120 := nq_let (a := (o + 1)) (b := 120) (by omega) (by omega) c1
    refine xq_n 33 [] [] [.int (Int32.ofInt 1)] (xh_ui h 3 5 ((xg 0 h.2.1 3 5) + (Int32.ofInt 1))) [true] 14 hq rfl ⟨(show xe_c .le (xg 0 (xh_ui h 3 5 ((xg 0 h.2.1 3 5) + (Int32.ofInt 1))).2.1 3 5) 120 = true by rw [show (xg 0 (xh_ui h 3 5 ((xg 0 h.2.1 3 5) + (Int32.ofInt 1))).2.1 3 5) = ((xg 0 h.2.1 3 5) + (Int32.ofInt 1)) from gx_s, show (xg 0 h.2.1 3 5) = (nI o) from c0.2.2.2.2.2.1, show ((nI o) + (Int32.ofInt 1)) = nI (o + 1) from nI_1 _]; exact c1), trivial⟩ (fun _ => ?_)
    rw [show (xg 0 h.2.1 3 5) = (nI o) from c0.2.2.2.2.2.1]
    rw [show ((nI o) + (Int32.ofInt 1)) = nI (o + 1) from nI_1 _]
    have hq : a_rq a_tb (xh_ui h 3 5 (nI (o + 1))) := a_rq_ui hq
    exact xq_ret rfl rfl rfl (fx_ui (fx_0) rfl)
  | false =>
    have z1 : (o + 1) > 120 := nq_lef (a := (o + 1)) (b := 120) (by omega) (by omega) c1
    refine xq_n 22 [0, 1] [(0, .ref 3), (1, .int (nI st))] [.int (nI st), .int (Int32.ofInt 4), .ref 3] (xh_ui h 3 5 ((xg 0 h.2.1 3 5) + (Int32.ofInt 1))) [false] 15 hq rfl ⟨(show xe_c .le (xg 0 (xh_ui h 3 5 ((xg 0 h.2.1 3 5) + (Int32.ofInt 1))).2.1 3 5) 120 = false by rw [show (xg 0 (xh_ui h 3 5 ((xg 0 h.2.1 3 5) + (Int32.ofInt 1))).2.1 3 5) = ((xg 0 h.2.1 3 5) + (Int32.ofInt 1)) from gx_s, show (xg 0 h.2.1 3 5) = (nI o) from c0.2.2.2.2.2.1, show ((nI o) + (Int32.ofInt 1)) = nI (o + 1) from nI_1 _]; exact c1), trivial⟩ (fun _ => ?_)
    rw [show (xg 0 h.2.1 3 5) = (nI o) from c0.2.2.2.2.2.1]
    rw [show ((nI o) + (Int32.ofInt 1)) = nI (o + 1) from nI_1 _]
    have hq : a_rq a_tb (xh_ui h 3 5 (nI (o + 1))) := a_rq_ui hq
    refine xq_run hq rfl rfl (fail_q (k := 4) (pl := st) hq) ?_
    rintro v2 h2 ⟨rfl, g2, f2, l2⟩
    have hq := fx_q g2 hq
    refine xq_n 33 [] [] [.int (Int32.ofInt 0)] h2 [true] 4 hq rfl ⟨(by decide), trivial⟩ (fun hq => ?_)
    exact xq_ret rfl rfl rfl (fx_t (fx_ui (fx_0) rfl) (fx_w g2 (fun _ _ => fS_38) (fun _ _ z => z)))
def nh_P (h : xh_H) (nn : Nat) (NW : Nat → Nat) (w : Nat) (v : Option Value) (h' : xh_H) : Prop := h = h' ∧ ((v = some (.int (Int32.ofInt (-1))) ∧ hasn nn NW w = false) ∨ (nmi nn NW w < nn ∧ v = some (.int (nI (nmi nn NW w))) ∧ hasn nn NW w = true))
theorem fr_1 {NW : Nat → Nat} {w i : Nat} : ∀ (k j : Nat), j ≤ i → i < j + k → (∀ x, j ≤ x → x < i → NW x ≠ w) → NW i = w → ((List.range' j k).find? (fun k => Nat.beq (NW k) w)) = some i := by
  intro k
  induction k with
  | zero => intro j h1 h2; omega
  | succ k ih =>
    intro j h1 h2 ha he
    rw [List.range'_succ, List.find?_cons]
    by_cases e : j = i
    · rw [e, he, Nat.beq_refl]
    · have : Nat.beq (NW j) w = false := by
        rw [Bool.eq_false_iff]
        intro z
        exact ha j (Nat.le_refl _) (by omega) (Nat.eq_of_beq_eq_true z)
      rw [this]
      exact ih (j + 1) (by omega) (by omega) (fun x y1 y2 => ha x (by omega) y2) he
theorem nmi_1 {NW : Nat → Nat} {w nn i : Nat} (hi : i < nn) (ha : ∀ j, j < i → NW j ≠ w) (he : NW i = w) : nmi nn NW w = i := by
  unfold nmi
  rw [List.range_eq_range', fr_1 nn 0 (Nat.zero_le _) (by omega) (fun x _ y => ha x y) he]
  rfl
set_option maxRecDepth 100000 in
set_option maxHeartbeats 4000000 in
theorem tp_lp {p o d : Nat} {h : xh_H} (c0 : cr h T n mem nn NM p o d) (h2 : tkk T n p = 2) : ∀ (f i : Nat), a_rq a_tb h → i ≤ nn → (∀ j, j < i → nmW T NM j ≠ tkw T n p) → xq f xi_X4_toldName xmi_X4_toldName 2 [(0, .ref 3), (1, .int (nI i))] [] h (nh_P h nn (nmW T NM) (tkw T n p)) := by
  have hT : ∀ k, k < n → T k < 256 := fun k hk' => (c0.1.2.2 k hk').1
  have tk := c0.2.1
  have kb := tkk_lt (T := T) (n := n) (p := p) hT
  have n6 := c0.1.2.1
  have n16 := c0.2.2.2.2.2.2.2.2.2.1.2.1
  intro f
  induction f with
  | zero => intros; exact xq_0
  | succ f ih =>
    intro i hq hi ha
    cases c1 : xe_c .ge (nI i) (nI nn) with
    | true =>
      have z1 : i ≥ nn := nq_get (a := i) (b := nn) (by omega) (by omega) c1
      refine xq_m 41 [] [] [.int (Int32.ofInt (-1))] h [true] 7 hq rfl ⟨(show xe_c .ge (nI i) (xg 0 h.2.1 3 7) = true by rw [show (xg 0 h.2.1 3 7) = (nI nn) from c0.2.2.2.2.2.2.2.2.2.1.1]; exact c1), trivial⟩ (fun hq => ?_)
      exact xq_ret rfl rfl rfl ⟨rfl, Or.inl ⟨rfl, decide_eq_false (fun ⟨j, y1, y2⟩ => ha j (by omega) y2)⟩⟩
    | false =>
      have z1 : i < nn := nq_gef (a := i) (b := nn) (by omega) (by omega) c1
      refine xq_m 26 [0, 1] [(0, .ref 3), (1, .int (nI i))] [.int (xg 0 h.2.1 10 ((nI i).toNatClampNeg)), .int (xg 0 h.2.1 9 ((nI i).toNatClampNeg)), .ref 8] h [false] 16 hq rfl ⟨(show xe_c .ge (nI i) (xg 0 h.2.1 3 7) = false by rw [show (xg 0 h.2.1 3 7) = (nI nn) from c0.2.2.2.2.2.2.2.2.2.1.1]; exact c1), trivial⟩ (fun hq => ?_)
      rw [show (xg 0 h.2.1 10 ((nI i).toNatClampNeg)) = (nI (NM i).2) from (by rw [show ((nI i).toNatClampNeg) = i from nI_clamp (by omega)]; exact (c0.2.2.2.2.2.2.2.2.2.1.2.2 _ (by omega)).2.1)]
      rw [show (xg 0 h.2.1 9 ((nI i).toNatClampNeg)) = (nI (NM i).1) from (by rw [show ((nI i).toNatClampNeg) = i from nI_clamp (by omega)]; exact (c0.2.2.2.2.2.2.2.2.2.1.2.2 _ (by omega)).1)]
      have n2 := c0.2.2.2.2.2.2.2.2.2.1.2.2 i (by omega)
      refine xq_run hq rfl rfl (lk_q c0.1 tk h2 n2.2.2.2.1 n2.2.2.1 n2.2.2.2.2 hq) ?_
      rintro v3 h_v3 ⟨rfl, rfl⟩
      cases b4 : (decide (wv T (NM i).1 ((NM i).2 - (NM i).1) = tkw T n p)) with
      | true =>
        have db4 := of_decide_eq_true b4
        refine xq_n 33 [] [] [.int (nI i)] h [false] 4 hq rfl ⟨rfl, trivial⟩ (fun hq => ?_)
        have en := nmi_1 (NW := nmW T NM) (nn := nn) (i := i) (w := tkw T n p) (by omega) ha db4
        exact xq_ret rfl rfl rfl ⟨rfl, Or.inr ⟨by omega, by rw [en], decide_eq_true ⟨i, by omega, db4⟩⟩⟩
      | false =>
        have db4 := of_decide_eq_false b4
        refine xq_n 2 [0, 1] [(0, .ref 3), (1, .int ((nI i) + Int32.ofInt 1))] [] h [true] 5 hq rfl ⟨rfl, trivial⟩ (fun hq => ?_)
        rw [show ((nI i) + Int32.ofInt 1) = nI (i + 1) from nI_1 _]
        exact ih (i + 1) hq (by omega) (fun j hj => by
          by_cases ek : j = i
          · rw [ek]; exact db4
          · exact ha j (by omega))
set_option maxRecDepth 100000 in
set_option maxHeartbeats 4000000 in
theorem tp_q {f p o d : Nat} {h : xh_H} (c0 : cr h T n mem nn NM p o d) (h2 : tkk T n p = 2) (hq : a_rq a_tb h) : xq f xi_X4_toldName xmi_X4_toldName 0 [(0, .ref 3)] [] h (nh_P h nn (nmW T NM) (tkw T n p)) := by
  refine xq_n 2 [0, 1] [(0, .ref 3), (1, .int (Int32.ofInt 0))] [] h [] 4 hq rfl trivial (fun hq => ?_)
  exact tp_lp c0 h2 f 0 hq (Nat.zero_le _) (fun j hj => absurd hj (Nat.not_lt_zero j))
set_option maxRecDepth 100000 in
set_option maxHeartbeats 4000000 in
theorem tnn_n {f p o d : Nat} {h : xh_H} (c0 : cr h T n mem nn NM p o d) (hq : a_rq a_tb h) : xq f xi_X4_takeNewName xmi_X4_takeNewName 0 [(0, .ref 3)] [] h (fun v h' => fx c38 fN h h') := by
  have hT : ∀ k, k < n → T k < 256 := fun k hk' => (c0.1.2.2 k hk').1
  have kb := tkk_lt (T := T) (n := n) (p := p) hT
  have n6 := c0.1.2.1
  have s6 := tks_le (T := T) (n := n) (p := p)
  have mm := c0.2.2.2.2.1
  have n16 := c0.2.2.2.2.2.2.2.2.2.1.2.1
  have o121 := c0.2.2.2.2.2.2.1
  have d13 := c0.2.2.2.2.2.2.2.2.1
  refine xq_n 4 [0] [(0, .ref 3)] [.ref 8] h [] 4 hq rfl trivial (fun hq => ?_)
  refine xq_run hq rfl rfl (nm_q (c0.1) (c0.2.1) hq) ?_
  rintro v1 h_v1 ⟨rfl, rfl⟩
  cases b2 : (nmt T n p) with
  | true =>
    have db2 := of_decide_eq_true b2
    refine xq_n 24 [0] [(0, .ref 3)] [.ref 3] h [true] 4 hq rfl ⟨rfl, trivial⟩ (fun hq => ?_)
    refine xq_run hq rfl rfl (tp_q c0 (by omega) hq) ?_
    rintro v3 h_3 ⟨rfl, ⟨rfl, hn3⟩ | ⟨kl3, rfl, hn3⟩⟩
    · skip
      cases c4 : xe_c .lt (nI nn) 16 with
      | true =>
        have z4 : nn < 16 := nq_ltt (a := nn) (b := 16) (by omega) (by omega) c4
        refine xq_n 70 [0] [(0, .ref 3)] [.ref 8] h [true, true] 10 hq rfl ⟨(by decide), (show xe_c .lt (xg 0 h.2.1 3 7) 16 = true by rw [show (xg 0 h.2.1 3 7) = (nI nn) from c0.2.2.2.2.2.2.2.2.2.1.1]; exact c4), trivial⟩ (fun hq => ?_)
        have nz5 : tkk T n p ≠ 0 := by omega
        have le5 := tke_le nz5
        refine xq_run hq rfl rfl (adv_q hq hT (c0.1) (c0.2.2.1) ((c0.2.1.2.2.1 (by omega)).1) (by omega)) ?_
        rintro v5 h5 ⟨rfl, g5, t5⟩
        have hq := fx_q g5 hq
        have kb5 := tkk_lt (T := T) (n := n) (p := tke T n p) hT
        have s65 := tks_le (T := T) (n := n) (p := tke T n p)
        refine xq_n 74 [] [] [.int (Int32.ofInt 1)] h5 [] 3 hq rfl trivial (fun hq => ?_)
        exact xq_ret rfl rfl rfl (fx_t (fx_0) (fx_w g5 (fun _ _ => sS_38) (fun _ _ z => z)))
      | false =>
        have z4 : nn ≥ 16 := nq_ltf (a := nn) (b := 16) (by omega) (by omega) c4
        refine xq_n 62 [0] [(0, .ref 3)] [.int (xg 0 h.2.1 8 4), .int (Int32.ofInt 4), .ref 3] h [true, false] 13 hq rfl ⟨(by decide), (show xe_c .lt (xg 0 h.2.1 3 7) 16 = false by rw [show (xg 0 h.2.1 3 7) = (nI nn) from c0.2.2.2.2.2.2.2.2.2.1.1]; exact c4), trivial⟩ (fun hq => ?_)
        rw [show (xg 0 h.2.1 8 4) = (nI (tks T n p)) from c0.2.1.2.1]
        refine xq_run hq rfl rfl (fail_q (k := 4) (pl := (tks T n p)) hq) ?_
        rintro v6 h6 ⟨rfl, g6, f6, l6⟩
        have hq := fx_q g6 hq
        exact xq_ret rfl rfl rfl (fx_t (fx_0) (fx_w g6 (fun _ _ => fS_38) (fun _ _ z => z)))
    · skip
      cases c7 : xe_c .eq (nI (nmi nn (nmW T NM) (tkw T n p))) (Int32.ofInt (-1)) with
      | true =>
        exact absurd (of_decide_eq_true c7) (nIm1 (by omega))
      | false =>
        refine xq_n 40 [0] [(0, .ref 3)] [.int (xg 0 h.2.1 8 4), .int (Int32.ofInt 3), .ref 3] h [false] 9 hq rfl ⟨c7, trivial⟩ (fun hq => ?_)
        rw [show (xg 0 h.2.1 8 4) = (nI (tks T n p)) from c0.2.1.2.1]
        refine xq_run hq rfl rfl (fail_q (k := 3) (pl := (tks T n p)) hq) ?_
        rintro v8 h8 ⟨rfl, g8, f8, l8⟩
        have hq := fx_q g8 hq
        exact xq_ret rfl rfl rfl (fx_t (fx_0) (fx_w g8 (fun _ _ => fS_38) (fun _ _ z => z)))
  | false =>
    have db2 := of_decide_eq_false b2
    refine xq_n 19 [0] [(0, .ref 3)] [.int (xg 0 h.2.1 8 4), .int (Int32.ofInt 1), .ref 3] h [false] 8 hq rfl ⟨rfl, trivial⟩ (fun hq => ?_)
    rw [show (xg 0 h.2.1 8 4) = (nI (tks T n p)) from c0.2.1.2.1]
    refine xq_run hq rfl rfl (fail_q (k := 1) (pl := (tks T n p)) hq) ?_
    rintro v9 h9 ⟨rfl, g9, f9, l9⟩
    have hq := fx_q g9 hq
    exact xq_ret rfl rfl rfl (fx_t (fx_0) (fx_w g9 (fun _ _ => fS_38) (fun _ _ z => z)))
set_option maxRecDepth 100000 in
set_option maxHeartbeats 4000000 in
theorem te_n {f p o d : Nat} {h : xh_H} (c0 : cr h T n mem nn NM p o d) (hq : a_rq a_tb h) : xq f xi_X4_takeEnd xmi_X4_takeEnd 0 [(0, .ref 3)] [] h (fun v h' => fx c38 fN h h') := by
  have hT : ∀ k, k < n → T k < 256 := fun k hk' => (c0.1.2.2 k hk').1
  have kb := tkk_lt (T := T) (n := n) (p := p) hT
  have n6 := c0.1.2.1
  have s6 := tks_le (T := T) (n := n) (p := p)
  have mm := c0.2.2.2.2.1
  have n16 := c0.2.2.2.2.2.2.2.2.2.1.2.1
  have o121 := c0.2.2.2.2.2.2.1
  have d13 := c0.2.2.2.2.2.2.2.2.1
  cases c1 : xe_c .ne (nI (tkk T n p)) 0 with
  | true =>
    have z1 : (tkk T n p) ≠ 0 := nq_net (a := (tkk T n p)) (b := 0) (by omega) (by omega) c1
    refine xq_n 39 [0, 1] [(0, .ref 3), (1, .int (Int32.ofInt 0))] [.int (xg 0 h.2.1 8 4), .int (Int32.ofInt 1), .ref 3] h [true, false] 15 hq rfl ⟨(show xe_c .ne (xg 0 h.2.1 8 3) 0 = true by rw [show (xg 0 h.2.1 8 3) = (nI (tkk T n p)) from c0.2.1.1]; exact c1), (by decide), trivial⟩ (fun hq => ?_)
    rw [show (xg 0 h.2.1 8 4) = (nI (tks T n p)) from c0.2.1.2.1]
    refine xq_run hq rfl rfl (fail_q (k := 1) (pl := (tks T n p)) hq) ?_
    rintro v2 h2 ⟨rfl, g2, f2, l2⟩
    have hq := fx_q g2 hq
    refine xq_n 50 [] [] [.int (Int32.ofInt 0)] h2 [true] 4 hq rfl ⟨(by decide), trivial⟩ (fun hq => ?_)
    exact xq_ret rfl rfl rfl (fx_t (fx_0) (fx_w g2 (fun _ _ => fS_38) (fun _ _ z => z)))
  | false =>
    have z1 : (tkk T n p) = 0 := nq_nef (a := (tkk T n p)) (b := 0) (by omega) (by omega) c1
    refine xq_n 14 [0] [(0, .ref 3)] [.ref 8] h [false] 8 hq rfl ⟨(show xe_c .ne (xg 0 h.2.1 8 3) 0 = false by rw [show (xg 0 h.2.1 8 3) = (nI (tkk T n p)) from c0.2.1.1]; exact c1), trivial⟩ (fun hq => ?_)
    refine xq_run hq rfl rfl (cut_q (c0.1) hq) ?_
    rintro v3 h_v3 ⟨rfl, rfl⟩
    cases b4 : (decide (600 < n)) with
    | true =>
      have db4 := of_decide_eq_true b4
      refine xq_n 39 [0, 1] [(0, .ref 3), (1, .int (Int32.ofInt 0))] [.int (xg 0 h.2.1 8 4), .int (Int32.ofInt 1), .ref 3] h [true, false] 12 hq rfl ⟨rfl, (by decide), trivial⟩ (fun hq => ?_)
      rw [show (xg 0 h.2.1 8 4) = (nI (tks T n p)) from c0.2.1.2.1]
      refine xq_run hq rfl rfl (fail_q (k := 1) (pl := (tks T n p)) hq) ?_
      rintro v5 h5 ⟨rfl, g5, f5, l5⟩
      have hq := fx_q g5 hq
      refine xq_n 50 [] [] [.int (Int32.ofInt 0)] h5 [true] 4 hq rfl ⟨(by decide), trivial⟩ (fun hq => ?_)
      exact xq_ret rfl rfl rfl (fx_t (fx_0) (fx_w g5 (fun _ _ => fS_38) (fun _ _ z => z)))
    | false =>
      have db4 := of_decide_eq_false b4
      refine xq_n 50 [] [] [.int (Int32.ofInt 1)] h [false, true] 10 hq rfl ⟨rfl, (by decide), trivial⟩ (fun hq => ?_)
      exact xq_ret rfl rfl rfl (fx_0)
set_option maxRecDepth 100000 in
set_option maxHeartbeats 4000000 in
theorem nmb_n {f p o d : Nat} {h : xh_H} {P : cdL} (hl : lone T n p = true) (pt : ptx h P) (l4 : P.length < 400) (c0 : cr h T n mem nn NM p o d) (hq : a_rq a_tb h) : xq f xi_X4_noteMember xmi_X4_noteMember 0 [(0, .ref 3)] [] h (fun v h' => v = some (.int 1) → ptx h' (P ++ [(0, nI (T (tks T n p) - 97))])) := by
  have hT : ∀ k, k < n → T k < 256 := fun k hk' => (c0.1.2.2 k hk').1
  have kb := tkk_lt (T := T) (n := n) (p := p) hT
  have n6 := c0.1.2.1
  have s6 := tks_le (T := T) (n := n) (p := p)
  have mm := c0.2.2.2.2.1
  have n16 := c0.2.2.2.2.2.2.2.2.2.1.2.1
  have o121 := c0.2.2.2.2.2.2.1
  have d13 := c0.2.2.2.2.2.2.2.2.1
  have dl := of_decide_eq_true hl
  have gt := tke_gt (T := T) (n := n) (p := p) (by omega)
  have l1 := (tk2 dl.1).2.2 (tks T n p) (by omega) (by omega)
  refine xq_n 4 [0] [(0, .ref 3)] [.ref 8] h [] 4 hq rfl trivial (fun hq => ?_)
  refine xq_run hq rfl rfl (let_q (c0.1) (c0.2.1) (by omega) hq) ?_
  rintro v1 h_v1 ⟨rfl, rfl⟩
  cases c2 : xe_c .lt (nI (T (tks T n p) - 97)) 0 with
  | true =>
    have z2 : (T (tks T n p) - 97) < 0 := nq_ltt (a := (T (tks T n p) - 97)) (b := 0) (by omega) (by omega) c2
    omega
  | false =>
    have z2 : (T (tks T n p) - 97) ≥ 0 := nq_ltf (a := (T (tks T n p) - 97)) (b := 0) (by omega) (by omega) c2
    cases c3 : xe_c .lt (nI (T (tks T n p) - 97)) (nI mem) with
    | true =>
      have z3 : (T (tks T n p) - 97) < mem := nq_ltt (a := (T (tks T n p) - 97)) (b := mem) (by omega) (by omega) c3
      refine xq_n 39 [0, 1] [(0, .ref 3), (1, .int (nI (T (tks T n p) - 97)))] [.int (nI (T (tks T n p) - 97)), .int (Int32.ofInt 0), .ref 4] h [false, true] 13 hq rfl ⟨c2, (show xe_c .lt (nI (T (tks T n p) - 97)) (xg 0 h.2.1 3 4) = true by rw [show (xg 0 h.2.1 3 4) = (nI mem) from c0.2.2.2.1]; exact c3), trivial⟩ (fun hq => ?_)
      refine xq_run hq rfl rfl (pad_q (c := 0) (y := nI (T (tks T n p) - 97)) (pt) (by first | omega | (simp only [List.length_append, List.length_cons, List.length_nil]; omega)) hq) ?_
      rintro v4 h4 ⟨rfl, g4, x4⟩
      have hq := fx_q g4 hq
      refine xq_n 43 [] [] [.int (Int32.ofInt 1)] h4 [] 3 hq rfl trivial (fun hq => ?_)
      exact xq_ret rfl rfl rfl (fun _ => x4)
    | false =>
      have z3 : (T (tks T n p) - 97) ≥ mem := nq_ltf (a := (T (tks T n p) - 97)) (b := mem) (by omega) (by omega) c3
      refine xq_n 29 [0, 1] [(0, .ref 3), (1, .int (nI (T (tks T n p) - 97)))] [.int (xg 0 h.2.1 8 4), .int (Int32.ofInt 2), .ref 3] h [false, false] 14 hq rfl ⟨c2, (show xe_c .lt (nI (T (tks T n p) - 97)) (xg 0 h.2.1 3 4) = false by rw [show (xg 0 h.2.1 3 4) = (nI mem) from c0.2.2.2.1]; exact c3), trivial⟩ (fun hq => ?_)
      rw [show (xg 0 h.2.1 8 4) = (nI (tks T n p)) from c0.2.1.2.1]
      refine xq_run hq rfl rfl (fail_q (k := 2) (pl := (tks T n p)) hq) ?_
      rintro v5 h5 ⟨rfl, g5, f5, l5⟩
      have hq := fx_q g5 hq
      exact xq_ret rfl rfl rfl (fun e => absurd e (by decide))
set_option maxRecDepth 100000 in
set_option maxHeartbeats 4000000 in
theorem nnm_n {f p o d : Nat} {h : xh_H} {P : cdL} (pt : ptx h P) (l4 : P.length < 400) (c0 : cr h T n mem nn NM p o d) (hq : a_rq a_tb h) : xq f xi_X4_noteName xmi_X4_noteName 0 [(0, .ref 3)] [] h (fun v h' => v = some (.int 1) → nmi nn (nmW T NM) (tkw T n p) < nn ∧ ptx h' (P ++ [(1, nI (nmi nn (nmW T NM) (tkw T n p)))])) := by
  have hT : ∀ k, k < n → T k < 256 := fun k hk' => (c0.1.2.2 k hk').1
  have kb := tkk_lt (T := T) (n := n) (p := p) hT
  have n6 := c0.1.2.1
  have s6 := tks_le (T := T) (n := n) (p := p)
  have mm := c0.2.2.2.2.1
  have n16 := c0.2.2.2.2.2.2.2.2.2.1.2.1
  have o121 := c0.2.2.2.2.2.2.1
  have d13 := c0.2.2.2.2.2.2.2.2.1
  refine xq_n 4 [0] [(0, .ref 3)] [.ref 8] h [] 4 hq rfl trivial (fun hq => ?_)
  refine xq_run hq rfl rfl (nm_q (c0.1) (c0.2.1) hq) ?_
  rintro v1 h_v1 ⟨rfl, rfl⟩
  cases b2 : (nmt T n p) with
  | true =>
    have db2 := of_decide_eq_true b2
    refine xq_n 24 [0] [(0, .ref 3)] [.ref 3] h [true] 4 hq rfl ⟨rfl, trivial⟩ (fun hq => ?_)
    refine xq_run hq rfl rfl (tp_q c0 (by omega) hq) ?_
    rintro v3 h_3 ⟨rfl, ⟨rfl, hn3⟩ | ⟨kl3, rfl, hn3⟩⟩
    · skip
      refine xq_n 42 [0, 1] [(0, .ref 3), (1, .int (Int32.ofInt (-1)))] [.int (xg 0 h.2.1 8 4), .int (Int32.ofInt 3), .ref 3] h [false] 11 hq rfl ⟨(by decide), trivial⟩ (fun hq => ?_)
      rw [show (xg 0 h.2.1 8 4) = (nI (tks T n p)) from c0.2.1.2.1]
      refine xq_run hq rfl rfl (fail_q (k := 3) (pl := (tks T n p)) hq) ?_
      rintro v4 h4 ⟨rfl, g4, f4, l4⟩
      have hq := fx_q g4 hq
      exact xq_ret rfl rfl rfl (fun e => absurd e (by decide))
    · skip
      cases c5 : xe_c .ne (nI (nmi nn (nmW T NM) (tkw T n p))) (Int32.ofInt (-1)) with
      | true =>
        refine xq_n 52 [0, 1] [(0, .ref 3), (1, .int (nI (nmi nn (nmW T NM) (tkw T n p))))] [.int (nI (nmi nn (nmW T NM) (tkw T n p))), .int (Int32.ofInt 1), .ref 4] h [true] 10 hq rfl ⟨c5, trivial⟩ (fun hq => ?_)
        refine xq_run hq rfl rfl (pad_q (c := 1) (y := nI (nmi nn (nmW T NM) (tkw T n p))) (pt) (by first | omega | (simp only [List.length_append, List.length_cons, List.length_nil]; omega)) hq) ?_
        rintro v6 h6 ⟨rfl, g6, x6⟩
        have hq := fx_q g6 hq
        refine xq_n 56 [] [] [.int (Int32.ofInt 1)] h6 [] 3 hq rfl trivial (fun hq => ?_)
        exact xq_ret rfl rfl rfl (fun _ => ⟨kl3, x6⟩)
      | false =>
        exact absurd (xne_j c5) (nIm1 (by omega))
  | false =>
    have db2 := of_decide_eq_false b2
    refine xq_n 19 [0] [(0, .ref 3)] [.int (xg 0 h.2.1 8 4), .int (Int32.ofInt 1), .ref 3] h [false] 8 hq rfl ⟨rfl, trivial⟩ (fun hq => ?_)
    rw [show (xg 0 h.2.1 8 4) = (nI (tks T n p)) from c0.2.1.2.1]
    refine xq_run hq rfl rfl (fail_q (k := 1) (pl := (tks T n p)) hq) ?_
    rintro v7 h7 ⟨rfl, g7, f7, l7⟩
    have hq := fx_q g7 hq
    exact xq_ret rfl rfl rfl (fun e => absurd e (by decide))
end XPR
end
section
section XPS2
variable {T : Nat → Nat} {n mem nn : Nat} {NM : Nat → Nat × Nat}
def rP (h : xh_H) (T : Nat → Nat) (n mem nn : Nat) (NM : Nat → Nat × Nat) (o d : Nat) (P : cdL) (m : Nat) (G : Nat → Nat → cdL → Prop) (v : Option Value) (h' : xh_H) : Prop := fx cS fN h h' ∧ ((v = some (.int 1) ∧ ∃ p' o' c, cr h' T n mem nn NM p' o' d ∧ o < o' ∧ o' ≤ 120 ∧ ptx h' (P ++ c) ∧ c.length + m ≤ 3 * (o' - o) ∧ G p' o' c) ∨ (v = some (.int 0) ∧ ∃ k, xg 0 h'.2.1 3 8 = nI k ∧ 1 ≤ k ∧ k ≤ 4))
section
variable (T : Nat → Nat) (n mem nn : Nat) (NM : Nat → Nat × Nat)
def pOne (f : Nat) : Prop := ∀ (h : xh_H) (p o d : Nat) (P : cdL), cr h T n mem nn NM p o d → ptx h P → P.length ≤ 3 * o + 16 → o ≤ 120 → d ≤ 12 → a_rq a_tb h → xq f xi_X4_readOne xmi_X4_readOne 0 [(0, .ref 3)] [] h (rP h T n mem nn NM o d P 2 (VO T n mem nn (nmW T NM) d p o))
def pAll (f : Nat) : Prop := ∀ (h : xh_H) (p o d : Nat) (P : cdL), cr h T n mem nn NM p o d → ptx h P → P.length ≤ 3 * o + 16 → o ≤ 120 → d ≤ 12 → a_rq a_tb h → xq f xi_X4_readAll xmi_X4_readAll 0 [(0, .ref 3)] [] h (rP h T n mem nn NM o d P 2 (fun p' o' c => ky T n p' 2 = false ∧ VA T n mem nn (nmW T NM) d p o p' o' c))
def pRule (f : Nat) : Prop := ∀ (h : xh_H) (p o d : Nat) (P : cdL), cr h T n mem nn NM p o d → ptx h P → P.length ≤ 3 * o + 16 → o ≤ 120 → d ≤ 12 → a_rq a_tb h → xq f xi_X4_readRule xmi_X4_readRule 0 [(0, .ref 3)] [] h (rP h T n mem nn NM o d P 2 (fun p' o' c => ky T n p' 2 = false ∧ ky T n p' 3 = false ∧ VR T n mem nn (nmW T NM) d p o p' o' c))
def pItem (f : Nat) : Prop := ∀ (h : xh_H) (p o d : Nat) (P : cdL), cr h T n mem nn NM p o d → ptx h P → P.length ≤ 3 * o + 16 → o ≤ 120 → d ≤ 12 → a_rq a_tb h → xq f xi_X4_readItem xmi_X4_readItem 0 [(0, .ref 3)] [] h (rP h T n mem nn NM o d P 1 (VI T n mem nn (nmW T NM) d p o))
def pQuota (f : Nat) : Prop := ∀ (h : xh_H) (p o d st num : Nat) (P : cdL), cr h T n mem nn NM p o d → ptx h P → P.length ≤ 3 * o + 16 → o ≤ 120 → d ≤ 12 → num ≤ 999 → a_rq a_tb h → xq f xi_X4_readQuota xmi_X4_readQuota 0 [(0, .ref 3), (1, .int (nI st)), (2, .int (nI num))] [] h (rP h T n mem nn NM o d P 2 (VQ T n mem nn (nmW T NM) d p o st num))
end
set_option maxRecDepth 100000 in
set_option maxHeartbeats 4000000 in
theorem one_p {f : Nat} (iq : pQuota T n mem nn NM f) (ir : pRule T n mem nn NM f) : pOne T n mem nn NM (f + 1) := by
  intro h p o d P c0 pt pl o6 d12 hq
  have hT : ∀ k, k < n → T k < 256 := fun k hk' => (c0.1.2.2 k hk').1
  have kb := tkk_lt (T := T) (n := n) (p := p) hT
  have n6 := c0.1.2.1
  have s6 := tks_le (T := T) (n := n) (p := p)
  have mm := c0.2.2.2.2.1
  have n16 := c0.2.2.2.2.2.2.2.2.2.1.2.1
  have t9 : tkn T n p ≤ 999 := vf_999
  cases c1 : xe_c .ne (nI (tkk T n p)) (Int32.ofInt 3) with
  | true =>
    have z1 : (tkk T n p) ≠ 3 := nq_net (a := (tkk T n p)) (b := 3) (by omega) (by omega) c1
    cases c2 : xe_c .ne (nI (tkk T n p)) 40 with
    | true =>
      have z2 : (tkk T n p) ≠ 40 := nq_net (a := (tkk T n p)) (b := 40) (by omega) (by omega) c2
      refine xq_m 108 [0, 1] [(0, .ref 3), (1, .int (xg 0 h.2.1 8 4))] [.ref 8] h [true, true] 18 hq rfl ⟨(show xe_c .ne (xg 0 h.2.1 8 3) (Int32.ofInt 3) = true by rw [show (xg 0 h.2.1 8 3) = (nI (tkk T n p)) from c0.2.1.1]; exact c1), (show xe_c .ne (xg 0 h.2.1 8 3) 40 = true by rw [show (xg 0 h.2.1 8 3) = (nI (tkk T n p)) from c0.2.1.1]; exact c2), trivial⟩ (fun hq => ?_)
      rw [show (xg 0 h.2.1 8 4) = (nI (tks T n p)) from c0.2.1.2.1]
      refine xq_run hq rfl rfl (lo_q (c0.1) (c0.2.1) hq) ?_
      rintro v3 h_v3 ⟨rfl, rfl⟩
      cases b4 : (lone T n p) with
      | true =>
        have db4 := of_decide_eq_true b4
        refine xq_n 115 [0, 1] [(0, .ref 3), (1, .int (nI (tks T n p)))] [.ref 3] h [false] 4 hq rfl ⟨rfl, trivial⟩ (fun hq => ?_)
        refine xq_run hq rfl rfl (xq_and (nmb_q b4 c0 hq) (nmb_n b4 (pt) (by omega) c0 hq)) ?_
        rintro v5 h5 ⟨⟨g5, l5, q5⟩, n5⟩
        have hq := fx_q g5 hq
        by_cases w5_0 : mem ≤ T (tks T n p) - 97
        · obtain ⟨rfl, f5, y5, z5, e65, e5⟩ := q5 2 (tks T n p) (by unfold kM; rw [if_pos w5_0])
          refine xq_n 149 [0, 1, 2] [(0, .ref 3), (1, .int (nI (tks T n p))), (2, .int (Int32.ofInt 0))] [.ref 8] h5 [true] 7 hq rfl ⟨(by decide), trivial⟩ (fun hq => ?_)
          refine xq_run hq rfl rfl (adv_q hq hT (ct_f (S := cS) (L := fN) (c0.1) (g5) rfl (fun _ => rfl)) ((fx_i g5 rfl).trans (c0.2.2.1)) e5 e65) ?_
          rintro v6 h6 ⟨rfl, g6, -⟩
          have hq := fx_q g6 hq
          refine xq_n 153 [] [] [.int (Int32.ofInt 0)] h6 [] 3 hq rfl trivial (fun hq => ?_)
          exact xq_ret rfl rfl rfl ⟨fx_t (fx_t (fx_0) (g5)) (fx_w g6 (fun _ _ => sS_c) (fun _ _ z => z)), Or.inr ⟨rfl, _, (fx_i g6 rfl).trans (f5), by omega, by omega⟩⟩
        · skip
          obtain ⟨rfl, c5⟩ := l5 (p) (o) (d) (by unfold kM; rw [if_neg w5_0])
          have x5 : ptx h5 (P ++ [(0, nI (T (tks T n p) - 97))]) := by simpa only [List.append_assoc] using (n5 rfl)
          have kb5 := tkk_lt (T := T) (n := n) (p := p) hT
          have s65 := tks_le (T := T) (n := n) (p := p)
          refine xq_n 133 [0, 1] [(0, .ref 3), (1, .int (nI (tks T n p)))] [.int (nI (tks T n p)), .ref 3] h5 [false] 6 hq rfl ⟨(by decide), trivial⟩ (fun hq => ?_)
          refine xq_run hq rfl rfl (xq_and (co_q (st := (tks T n p)) (by omega) c5 hq) (co_n (st := (tks T n p)) (by omega) c5 hq)) ?_
          rintro v7 h7 ⟨⟨g7, l7, q7⟩, n7⟩
          have hq := fx_q g7 hq
          by_cases w7_0 : 120 ≤ o
          · obtain ⟨rfl, f7, y7, z7, e67, e7⟩ := q7 4 ((tks T n p)) (by unfold kC; rw [if_pos w7_0])
            refine xq_n 149 [0, 1, 2] [(0, .ref 3), (1, .int (nI (tks T n p))), (2, .int (Int32.ofInt 0))] [.ref 8] h7 [true] 7 hq rfl ⟨(by decide), trivial⟩ (fun hq => ?_)
            refine xq_run hq rfl rfl (adv_q hq hT (ct_f (S := cS) (L := fN) (c5.1) (g7) rfl (fun _ => rfl)) ((fx_i g7 rfl).trans (c5.2.2.1)) e7 e67) ?_
            rintro v8 h8 ⟨rfl, g8, -⟩
            have hq := fx_q g8 hq
            refine xq_n 153 [] [] [.int (Int32.ofInt 0)] h8 [] 3 hq rfl trivial (fun hq => ?_)
            exact xq_ret rfl rfl rfl ⟨fx_t (fx_t (fx_t (fx_0) (g5)) (g7)) (fx_w g8 (fun _ _ => sS_c) (fun _ _ z => z)), Or.inr ⟨rfl, _, (fx_i g8 rfl).trans (f7), by omega, by omega⟩⟩
          · skip
            obtain ⟨rfl, c7⟩ := l7 (p) (o + 1) (d) (by unfold kC; rw [if_neg w7_0])
            have kb7 := tkk_lt (T := T) (n := n) (p := p) hT
            have s67 := tks_le (T := T) (n := n) (p := p)
            refine xq_n 149 [0, 1, 2] [(0, .ref 3), (1, .int (nI (tks T n p))), (2, .int (Int32.ofInt 1))] [.ref 8] h7 [false] 8 hq rfl ⟨(by decide), trivial⟩ (fun hq => ?_)
            have nz9 : tkk T n p ≠ 0 := by omega
            have le9 := tke_le nz9
            refine xq_run hq rfl rfl (adv_q hq hT (c7.1) (c7.2.2.1) ((c7.2.1.2.2.1 (by omega)).1) (by omega)) ?_
            rintro v9 h9 ⟨rfl, g9, t9⟩
            have hq := fx_q g9 hq
            have kb9 := tkk_lt (T := T) (n := n) (p := tke T n p) hT
            have s69 := tks_le (T := T) (n := n) (p := tke T n p)
            refine xq_n 153 [] [] [.int (Int32.ofInt 1)] h9 [] 3 hq rfl trivial (fun hq => ?_)
            exact xq_ret rfl rfl rfl ⟨fx_t (fx_t (fx_t (fx_0) (g5)) (g7)) (fx_w g9 (fun _ _ => sS_c) (fun _ _ z => z)), Or.inl ⟨rfl, tke T n p, (o + 1), [(0, nI (T (tks T n p) - 97))], ⟨ct_f (S := cS) (L := fN) (c7.1) (fx_w g9 (fun _ _ => sS_c) (fun _ _ z => z)) rfl (fun _ => rfl), t9, (fx_i g9 rfl).trans (c7.2.2.1), (fx_i g9 rfl).trans (c7.2.2.2.1), c0.2.2.2.2.1, (fx_i g9 rfl).trans (c7.2.2.2.2.2.1), by omega, (fx_i g9 rfl).trans (c7.2.2.2.2.2.2.2.1), by omega, cn_f (S := cS) (L := fN) (c7.2.2.2.2.2.2.2.2.2.1) (fx_w g9 (fun _ _ => sS_c) (fun _ _ z => z)) rfl (fun _ => rfl) (fun _ => rfl), (fx_i g9 rfl).trans (c7.2.2.2.2.2.2.2.2.2.2)⟩, by omega, by omega, ptx_f (ptx_n (x5) n7) g9 rfl (fun _ => rfl) (fun _ => rfl), by first | omega | (simp only [List.length_append, List.length_cons, List.length_nil]; omega), VO_mem (by assumption) (by omega) mm (by omega) d12⟩⟩
      | false =>
        have db4 := of_decide_eq_false b4
        refine xq_n 125 [0, 1] [(0, .ref 3), (1, .int (nI (tks T n p)))] [.ref 3] h [true] 4 hq rfl ⟨rfl, trivial⟩ (fun hq => ?_)
        refine xq_run hq rfl rfl (xq_and (nnm_q c0 hq) (nnm_n (pt) (by omega) c0 hq)) ?_
        rintro v10 h10 ⟨⟨g10, l10, q10⟩, n10⟩
        have hq := fx_q g10 hq
        by_cases w10_0 : nmt T n p = false
        · obtain ⟨rfl, f10, y10, z10, e610, e10⟩ := q10 1 (tks T n p) (by unfold kN; rw [if_pos w10_0])
          refine xq_n 149 [0, 1, 2] [(0, .ref 3), (1, .int (nI (tks T n p))), (2, .int (Int32.ofInt 0))] [.ref 8] h10 [true] 7 hq rfl ⟨(by decide), trivial⟩ (fun hq => ?_)
          refine xq_run hq rfl rfl (adv_q hq hT (ct_f (S := cS) (L := fN) (c0.1) (g10) rfl (fun _ => rfl)) ((fx_i g10 rfl).trans (c0.2.2.1)) e10 e610) ?_
          rintro v11 h11 ⟨rfl, g11, -⟩
          have hq := fx_q g11 hq
          refine xq_n 153 [] [] [.int (Int32.ofInt 0)] h11 [] 3 hq rfl trivial (fun hq => ?_)
          exact xq_ret rfl rfl rfl ⟨fx_t (fx_t (fx_0) (g10)) (fx_w g11 (fun _ _ => sS_c) (fun _ _ z => z)), Or.inr ⟨rfl, _, (fx_i g11 rfl).trans (f10), by omega, by omega⟩⟩
        · skip
          have w10_0t : nmt T n p = true := eq_true_of_ne_false w10_0
          have dw10_0 := of_decide_eq_true w10_0t
          by_cases w10_1 : hasn nn (nmW T NM) (tkw T n p) = false
          · obtain ⟨rfl, f10, y10, z10, e610, e10⟩ := q10 3 (tks T n p) (by unfold kN; rw [if_neg w10_0, if_pos w10_1])
            refine xq_n 149 [0, 1, 2] [(0, .ref 3), (1, .int (nI (tks T n p))), (2, .int (Int32.ofInt 0))] [.ref 8] h10 [true] 7 hq rfl ⟨(by decide), trivial⟩ (fun hq => ?_)
            refine xq_run hq rfl rfl (adv_q hq hT (ct_f (S := cS) (L := fN) (c0.1) (g10) rfl (fun _ => rfl)) ((fx_i g10 rfl).trans (c0.2.2.1)) e10 e610) ?_
            rintro v12 h12 ⟨rfl, g12, -⟩
            have hq := fx_q g12 hq
            refine xq_n 153 [] [] [.int (Int32.ofInt 0)] h12 [] 3 hq rfl trivial (fun hq => ?_)
            exact xq_ret rfl rfl rfl ⟨fx_t (fx_t (fx_0) (g10)) (fx_w g12 (fun _ _ => sS_c) (fun _ _ z => z)), Or.inr ⟨rfl, _, (fx_i g12 rfl).trans (f10), by omega, by omega⟩⟩
          · skip
            have w10_1t : hasn nn (nmW T NM) (tkw T n p) = true := eq_true_of_ne_false w10_1
            obtain ⟨rfl, c10⟩ := l10 (p) (o) (d) (by unfold kN; rw [if_neg w10_0, if_neg w10_1])
            have x10 : ptx h10 (P ++ [(1, nI (nmi nn (nmW T NM) (tkw T n p)))]) := by simpa only [List.append_assoc] using (n10 rfl).2
            have nk10 := (n10 rfl).1
            have kb10 := tkk_lt (T := T) (n := n) (p := p) hT
            have s610 := tks_le (T := T) (n := n) (p := p)
            refine xq_n 133 [0, 1] [(0, .ref 3), (1, .int (nI (tks T n p)))] [.int (nI (tks T n p)), .ref 3] h10 [false] 5 hq rfl ⟨(by decide), trivial⟩ (fun hq => ?_)
            refine xq_run hq rfl rfl (xq_and (co_q (st := (tks T n p)) (by omega) c10 hq) (co_n (st := (tks T n p)) (by omega) c10 hq)) ?_
            rintro v13 h13 ⟨⟨g13, l13, q13⟩, n13⟩
            have hq := fx_q g13 hq
            by_cases w13_0 : 120 ≤ o
            · obtain ⟨rfl, f13, y13, z13, e613, e13⟩ := q13 4 ((tks T n p)) (by unfold kC; rw [if_pos w13_0])
              refine xq_n 149 [0, 1, 2] [(0, .ref 3), (1, .int (nI (tks T n p))), (2, .int (Int32.ofInt 0))] [.ref 8] h13 [true] 7 hq rfl ⟨(by decide), trivial⟩ (fun hq => ?_)
              refine xq_run hq rfl rfl (adv_q hq hT (ct_f (S := cS) (L := fN) (c10.1) (g13) rfl (fun _ => rfl)) ((fx_i g13 rfl).trans (c10.2.2.1)) e13 e613) ?_
              rintro v14 h14 ⟨rfl, g14, -⟩
              have hq := fx_q g14 hq
              refine xq_n 153 [] [] [.int (Int32.ofInt 0)] h14 [] 3 hq rfl trivial (fun hq => ?_)
              exact xq_ret rfl rfl rfl ⟨fx_t (fx_t (fx_t (fx_0) (g10)) (g13)) (fx_w g14 (fun _ _ => sS_c) (fun _ _ z => z)), Or.inr ⟨rfl, _, (fx_i g14 rfl).trans (f13), by omega, by omega⟩⟩
            · skip
              obtain ⟨rfl, c13⟩ := l13 (p) (o + 1) (d) (by unfold kC; rw [if_neg w13_0])
              have kb13 := tkk_lt (T := T) (n := n) (p := p) hT
              have s613 := tks_le (T := T) (n := n) (p := p)
              refine xq_n 149 [0, 1, 2] [(0, .ref 3), (1, .int (nI (tks T n p))), (2, .int (Int32.ofInt 1))] [.ref 8] h13 [false] 8 hq rfl ⟨(by decide), trivial⟩ (fun hq => ?_)
              have nz15 : tkk T n p ≠ 0 := by omega
              have le15 := tke_le nz15
              refine xq_run hq rfl rfl (adv_q hq hT (c13.1) (c13.2.2.1) ((c13.2.1.2.2.1 (by omega)).1) (by omega)) ?_
              rintro v15 h15 ⟨rfl, g15, t15⟩
              have hq := fx_q g15 hq
              have kb15 := tkk_lt (T := T) (n := n) (p := tke T n p) hT
              have s615 := tks_le (T := T) (n := n) (p := tke T n p)
              refine xq_n 153 [] [] [.int (Int32.ofInt 1)] h15 [] 3 hq rfl trivial (fun hq => ?_)
              exact xq_ret rfl rfl rfl ⟨fx_t (fx_t (fx_t (fx_0) (g10)) (g13)) (fx_w g15 (fun _ _ => sS_c) (fun _ _ z => z)), Or.inl ⟨rfl, tke T n p, (o + 1), [(1, nI (nmi nn (nmW T NM) (tkw T n p)))], ⟨ct_f (S := cS) (L := fN) (c13.1) (fx_w g15 (fun _ _ => sS_c) (fun _ _ z => z)) rfl (fun _ => rfl), t15, (fx_i g15 rfl).trans (c13.2.2.1), (fx_i g15 rfl).trans (c13.2.2.2.1), c0.2.2.2.2.1, (fx_i g15 rfl).trans (c13.2.2.2.2.2.1), by omega, (fx_i g15 rfl).trans (c13.2.2.2.2.2.2.2.1), by omega, cn_f (S := cS) (L := fN) (c13.2.2.2.2.2.2.2.2.2.1) (fx_w g15 (fun _ _ => sS_c) (fun _ _ z => z)) rfl (fun _ => rfl) (fun _ => rfl), (fx_i g15 rfl).trans (c13.2.2.2.2.2.2.2.2.2.2)⟩, by omega, by omega, ptx_f (ptx_n (x10) n13) g15 rfl (fun _ => rfl) (fun _ => rfl), by first | omega | (simp only [List.length_append, List.length_cons, List.length_nil]; omega), VO_nam (by assumption) (by assumption) (by assumption) n16 (by omega) d12⟩⟩
    | false =>
      have z2 : (tkk T n p) = 40 := nq_nef (a := (tkk T n p)) (b := 40) (by omega) (by omega) c2
      refine xq_m 55 [0, 1] [(0, .ref 3), (1, .int (xg 0 h.2.1 8 4))] [.int (xg 0 h.2.1 8 4), .ref 3] h [true, false] 18 hq rfl ⟨(show xe_c .ne (xg 0 h.2.1 8 3) (Int32.ofInt 3) = true by rw [show (xg 0 h.2.1 8 3) = (nI (tkk T n p)) from c0.2.1.1]; exact c1), (show xe_c .ne (xg 0 h.2.1 8 3) 40 = false by rw [show (xg 0 h.2.1 8 3) = (nI (tkk T n p)) from c0.2.1.1]; exact c2), trivial⟩ (fun hq => ?_)
      rw [show (xg 0 h.2.1 8 4) = (nI (tks T n p)) from c0.2.1.2.1]
      refine xq_run hq rfl rfl (xq_and (co_q (st := (tks T n p)) (by omega) c0 hq) (co_n (st := (tks T n p)) (by omega) c0 hq)) ?_
      rintro v16 h16 ⟨⟨g16, l16, q16⟩, n16⟩
      have hq := fx_q g16 hq
      by_cases w16_0 : 120 ≤ o
      · obtain ⟨rfl, f16, y16, z16, e616, e16⟩ := q16 4 ((tks T n p)) (by unfold kC; rw [if_pos w16_0])
        refine xq_n 103 [] [] [.int (Int32.ofInt 0)] (xh_ui h16 3 6 ((xg 0 h16.2.1 3 6) - (Int32.ofInt 1))) [true] 12 hq rfl ⟨(by decide), trivial⟩ (fun _ => ?_)
        have hq : a_rq a_tb (xh_ui h16 3 6 ((xg 0 h16.2.1 3 6) - (Int32.ofInt 1))) := a_rq_ui hq
        exact xq_ret rfl rfl rfl ⟨fx_ui (fx_t (fx_0) (g16)) rfl, Or.inr ⟨rfl, _, (gx_k (by decide)).trans (f16), by omega, by omega⟩⟩
      · skip
        obtain ⟨rfl, c16⟩ := l16 (p) (o + 1) (d) (by unfold kC; rw [if_neg w16_0])
        have kb16 := tkk_lt (T := T) (n := n) (p := p) hT
        have s616 := tks_le (T := T) (n := n) (p := p)
        refine xq_n 64 [0, 1] [(0, .ref 3), (1, .int (nI (tks T n p)))] [.int 40, .ref 3] h16 [false] 5 hq rfl ⟨(by decide), trivial⟩ (fun hq => ?_)
        refine xq_run hq rfl rfl (xq_and (to_q (c := 40) (by decide) (by decide) c16 hq) (to_n (c := 40) (by decide) (by decide) c16 hq)) ?_
        rintro v17 h17 ⟨⟨g17, l17, q17⟩, n17⟩
        have hq := fx_q g17 hq
        by_cases w17_0 : tkk T n p ≠ 40
        · obtain ⟨rfl, f17, y17, z17, e617, e17⟩ := q17 1 (tks T n p) (by unfold kO; rw [if_pos w17_0])
          refine xq_n 103 [] [] [.int (Int32.ofInt 0)] (xh_ui h17 3 6 ((xg 0 h17.2.1 3 6) - (Int32.ofInt 1))) [true] 12 hq rfl ⟨(by decide), trivial⟩ (fun _ => ?_)
          have hq : a_rq a_tb (xh_ui h17 3 6 ((xg 0 h17.2.1 3 6) - (Int32.ofInt 1))) := a_rq_ui hq
          exact xq_ret rfl rfl rfl ⟨fx_ui (fx_t (fx_t (fx_0) (g16)) (g17)) rfl, Or.inr ⟨rfl, _, (gx_k (by decide)).trans (f17), by omega, by omega⟩⟩
        · skip
          by_cases w17_1 : 12 ≤ d
          · obtain ⟨rfl, f17, y17, z17, e617, e17⟩ := q17 4 (tks T n p) (by unfold kO; rw [if_neg w17_0, if_pos w17_1])
            refine xq_n 103 [] [] [.int (Int32.ofInt 0)] (xh_ui h17 3 6 ((xg 0 h17.2.1 3 6) - (Int32.ofInt 1))) [true] 12 hq rfl ⟨(by decide), trivial⟩ (fun _ => ?_)
            have hq : a_rq a_tb (xh_ui h17 3 6 ((xg 0 h17.2.1 3 6) - (Int32.ofInt 1))) := a_rq_ui hq
            exact xq_ret rfl rfl rfl ⟨fx_ui (fx_t (fx_t (fx_0) (g16)) (g17)) rfl, Or.inr ⟨rfl, _, (gx_k (by decide)).trans (f17), by omega, by omega⟩⟩
          · skip
            obtain ⟨rfl, c17⟩ := l17 (tke T n p) ((o + 1)) (d + 1) (by unfold kO; rw [if_neg w17_0, if_neg w17_1])
            have kb17 := tkk_lt (T := T) (n := n) (p := tke T n p) hT
            have s617 := tks_le (T := T) (n := n) (p := tke T n p)
            refine xq_n 71 [0, 1] [(0, .ref 3), (1, .int (nI (tks T n p)))] [.ref 3] h17 [false] 4 hq rfl ⟨(by decide), trivial⟩ (fun hq => ?_)
            refine xq_run hq rfl rfl (ir _ _ _ _ (P) c17 (ptx_n (ptx_n (pt) n16) n17) (by omega) (by omega) (by omega) hq) ?_
            rintro v18 h18 ⟨g18, ⟨rfl, pq18, oq18, cq18, c18, lt18, le18, x18, ln18, G18⟩ | ⟨rfl, kq18, f18, ka18, kz18⟩⟩
            · have hq := fx_q g18 hq
              have kb18 := tkk_lt (T := T) (n := n) (p := pq18) hT
              have s618 := tks_le (T := T) (n := n) (p := pq18)
              refine xq_n 80 [0, 1] [(0, .ref 3), (1, .int (nI (tks T n p)))] [.int 41, .ref 3] h18 [false] 5 hq rfl ⟨(by decide), trivial⟩ (fun hq => ?_)
              refine xq_run hq rfl rfl (xq_and (ts_q (c := 41) (by decide) (by decide) c18 hq) (ts_n (c := 41) (by decide) (by decide) c18 hq)) ?_
              rintro v19 h19 ⟨⟨g19, l19, q19⟩, n19⟩
              have hq := fx_q g19 hq
              by_cases w19_0 : tkk T n pq18 ≠ 41
              · obtain ⟨rfl, f19, y19, z19, e619, e19⟩ := q19 1 (tks T n pq18) (by unfold kS; rw [if_pos w19_0])
                refine xq_n 103 [] [] [.int (Int32.ofInt 0)] (xh_ui h19 3 6 ((xg 0 h19.2.1 3 6) - (Int32.ofInt 1))) [true] 12 hq rfl ⟨(by decide), trivial⟩ (fun _ => ?_)
                have hq : a_rq a_tb (xh_ui h19 3 6 ((xg 0 h19.2.1 3 6) - (Int32.ofInt 1))) := a_rq_ui hq
                exact xq_ret rfl rfl rfl ⟨fx_ui (fx_t (fx_t (fx_t (fx_t (fx_0) (g16)) (g17)) (g18)) (g19)) rfl, Or.inr ⟨rfl, _, (gx_k (by decide)).trans (f19), by omega, by omega⟩⟩
              · skip
                obtain ⟨rfl, c19⟩ := l19 (tke T n pq18) (oq18) ((d + 1)) (by unfold kS; rw [if_neg w19_0])
                have kb19 := tkk_lt (T := T) (n := n) (p := tke T n pq18) hT
                have s619 := tks_le (T := T) (n := n) (p := tke T n pq18)
                refine xq_n 103 [] [] [.int (Int32.ofInt 1)] (xh_ui h19 3 6 ((xg 0 h19.2.1 3 6) - (Int32.ofInt 1))) [false] 13 hq rfl ⟨(by decide), trivial⟩ (fun _ => ?_)
                rw [show (xg 0 h19.2.1 3 6) = (nI (d + 1)) from c19.2.2.2.2.2.2.2.1]
                rw [show ((nI (d + 1)) - (Int32.ofInt 1)) = nI ((d + 1) - 1) from nI_dec1 (by omega)]
                rw [show (nI ((d + 1) - 1)) = nI d from (by rw [Nat.add_sub_cancel])]
                have hq : a_rq a_tb (xh_ui h19 3 6 (nI d)) := a_rq_ui hq
                exact xq_ret rfl rfl rfl ⟨fx_ui (fx_t (fx_t (fx_t (fx_t (fx_0) (g16)) (g17)) (g18)) (g19)) rfl, Or.inl ⟨rfl, tke T n pq18, oq18, cq18, ⟨ct_f (S := cS) (L := fN) (c19.1) (fx_ui fx_0 rfl) rfl (fun _ => rfl), tok_f (S := fun c k => Nat.beq c 3) (L := fN) (c19.2.1) (fx_ui fx_0 rfl) (fun _ => rfl), (gx_o (by decide)).trans (c19.2.2.1), (gx_k (by decide)).trans (c19.2.2.2.1), c0.2.2.2.2.1, (gx_k (by decide)).trans (c19.2.2.2.2.2.1), by omega, gx_s, by omega, cn_f (S := cS) (L := fN) (c19.2.2.2.2.2.2.2.2.2.1) (fx_ui fx_0 rfl) rfl (fun _ => rfl) (fun _ => rfl), (gx_k (by decide)).trans (c19.2.2.2.2.2.2.2.2.2.2)⟩, by omega, by omega, ptx_f (S := fun c k => Nat.beq c 3) (L := fN) (ptx_n (x18) n19) (fx_ui fx_0 rfl) rfl (fun _ => rfl) (fun _ => rfl), by first | omega | (simp only [List.length_append, List.length_cons, List.length_nil]; omega), VO_par (by omega) (by omega) (by omega) G18.2.2 G18.1 G18.2.1 (by omega)⟩⟩
            · have hq := fx_q g18 hq
              refine xq_n 103 [] [] [.int (Int32.ofInt 0)] (xh_ui h18 3 6 ((xg 0 h18.2.1 3 6) - (Int32.ofInt 1))) [true] 12 hq rfl ⟨(by decide), trivial⟩ (fun _ => ?_)
              have hq : a_rq a_tb (xh_ui h18 3 6 ((xg 0 h18.2.1 3 6) - (Int32.ofInt 1))) := a_rq_ui hq
              exact xq_ret rfl rfl rfl ⟨fx_ui (fx_t (fx_t (fx_t (fx_0) (g16)) (g17)) (g18)) rfl, Or.inr ⟨rfl, _, (gx_k (by decide)).trans (f18), by omega, by omega⟩⟩
  | false =>
    have z1 : (tkk T n p) = 3 := nq_nef (a := (tkk T n p)) (b := 3) (by omega) (by omega) c1
    refine xq_m 31 [0, 1, 2] [(0, .ref 3), (1, .int (xg 0 h.2.1 8 4)), (2, .int (xg 0 h.2.1 8 6))] [.ref 8] h [false] 17 hq rfl ⟨(show xe_c .ne (xg 0 h.2.1 8 3) (Int32.ofInt 3) = false by rw [show (xg 0 h.2.1 8 3) = (nI (tkk T n p)) from c0.2.1.1]; exact c1), trivial⟩ (fun hq => ?_)
    rw [show (xg 0 h.2.1 8 4) = (nI (tks T n p)) from c0.2.1.2.1]
    rw [show (xg 0 h.2.1 8 6) = (nI (tkn T n p)) from c0.2.1.2.2.2.1 (by omega)]
    have nz20 : tkk T n p ≠ 0 := by omega
    have le20 := tke_le nz20
    refine xq_run hq rfl rfl (adv_q hq hT (c0.1) (c0.2.2.1) ((c0.2.1.2.2.1 (by omega)).1) (by omega)) ?_
    rintro v20 h20 ⟨rfl, g20, t20⟩
    have hq := fx_q g20 hq
    have kb20 := tkk_lt (T := T) (n := n) (p := tke T n p) hT
    have s620 := tks_le (T := T) (n := n) (p := tke T n p)
    refine xq_n 37 [0, 1, 2] [(0, .ref 3), (1, .int (nI (tks T n p))), (2, .int (nI (tkn T n p)))] [.int (nI (tkn T n p)), .int (nI (tks T n p)), .ref 3] h20 [] 5 hq rfl trivial (fun hq => ?_)
    refine xq_run hq rfl rfl (iq _ _ _ _ (tks T n p) (tkn T n p) (P) ⟨ct_f (S := cS) (L := fN) (c0.1) (fx_w g20 (fun _ _ => sS_c) (fun _ _ z => z)) rfl (fun _ => rfl), t20, (fx_i g20 rfl).trans (c0.2.2.1), (fx_i g20 rfl).trans (c0.2.2.2.1), c0.2.2.2.2.1, (fx_i g20 rfl).trans (c0.2.2.2.2.2.1), by omega, (fx_i g20 rfl).trans (c0.2.2.2.2.2.2.2.1), by omega, cn_f (S := cS) (L := fN) (c0.2.2.2.2.2.2.2.2.2.1) (fx_w g20 (fun _ _ => sS_c) (fun _ _ z => z)) rfl (fun _ => rfl) (fun _ => rfl), (fx_i g20 rfl).trans (c0.2.2.2.2.2.2.2.2.2.2)⟩ (ptx_f (pt) g20 rfl (fun _ => rfl) (fun _ => rfl)) (by omega) (by omega) (by omega) (by omega) hq) ?_
    rintro v21 h21 ⟨g21, ⟨rfl, pq21, oq21, cq21, c21, lt21, le21, x21, ln21, G21⟩ | ⟨rfl, kq21, f21, ka21, kz21⟩⟩
    · have hq := fx_q g21 hq
      have kb21 := tkk_lt (T := T) (n := n) (p := pq21) hT
      have s621 := tks_le (T := T) (n := n) (p := pq21)
      exact xq_ret rfl rfl rfl ⟨fx_t (fx_t (fx_0) (fx_w g20 (fun _ _ => sS_c) (fun _ _ z => z))) (g21), Or.inl ⟨rfl, pq21, oq21, cq21, c21, by omega, by omega, x21, by first | omega | (simp only [List.length_append, List.length_cons, List.length_nil]; omega), VO_quo (by omega) G21⟩⟩
    · have hq := fx_q g21 hq
      exact xq_ret rfl rfl rfl ⟨fx_t (fx_t (fx_0) (fx_w g20 (fun _ _ => sS_c) (fun _ _ z => z))) (g21), Or.inr ⟨rfl, _, f21, by omega, by omega⟩⟩
set_option maxRecDepth 100000 in
set_option maxHeartbeats 4000000 in
theorem item_p {f : Nat} (io : pOne T n mem nn NM f) (iq : pQuota T n mem nn NM f) : pItem T n mem nn NM (f + 1) := by
  intro h p o d P c0 pt pl o6 d12 hq
  have hT : ∀ k, k < n → T k < 256 := fun k hk' => (c0.1.2.2 k hk').1
  have kb := tkk_lt (T := T) (n := n) (p := p) hT
  have n6 := c0.1.2.1
  have s6 := tks_le (T := T) (n := n) (p := p)
  have mm := c0.2.2.2.2.1
  have n16 := c0.2.2.2.2.2.2.2.2.2.1.2.1
  have t9 : tkn T n p ≤ 999 := vf_999
  cases c1 : xe_c .ne (nI (tkk T n p)) (Int32.ofInt 3) with
  | true =>
    have z1 : (tkk T n p) ≠ 3 := nq_net (a := (tkk T n p)) (b := 3) (by omega) (by omega) c1
    refine xq_m 107 [0, 1] [(0, .ref 3), (1, .int (Int32.ofInt 1))] [.ref 3] h [true] 10 hq rfl ⟨(show xe_c .ne (xg 0 h.2.1 8 3) (Int32.ofInt 3) = true by rw [show (xg 0 h.2.1 8 3) = (nI (tkk T n p)) from c0.2.1.1]; exact c1), trivial⟩ (fun hq => ?_)
    refine xq_run hq rfl rfl (io _ _ _ _ (P) c0 (pt) (by omega) (by omega) (by omega) hq) ?_
    rintro v2 h2 ⟨g2, ⟨rfl, pq2, oq2, cq2, c2, lt2, le2, x2, ln2, G2⟩ | ⟨rfl, kq2, f2, ka2, kz2⟩⟩
    · have hq := fx_q g2 hq
      have kb2 := tkk_lt (T := T) (n := n) (p := pq2) hT
      have s62 := tks_le (T := T) (n := n) (p := pq2)
      refine xq_n 117 [0, 1, 2] [(0, .ref 3), (1, .int (Int32.ofInt 1)), (2, .int (Int32.ofInt 1))] [.int (Int32.ofInt 1), .int (Int32.ofInt 5), .ref 4] h2 [] 7 hq rfl trivial (fun hq => ?_)
      refine xq_run hq rfl rfl (pad_q (c := 5) (y := Int32.ofInt 1) (x2) (by first | omega | (simp only [List.length_append, List.length_cons, List.length_nil]; omega)) hq) ?_
      rintro v3 h3 ⟨rfl, g3, x3⟩
      have hq := fx_q g3 hq
      have x3 : ptx h3 (P ++ (cq2 ++ [(5, Int32.ofInt 1)])) := by simpa only [List.append_assoc] using x3
      refine xq_n 121 [] [] [.int (Int32.ofInt 1)] h3 [] 3 hq rfl trivial (fun hq => ?_)
      exact xq_ret rfl rfl rfl ⟨fx_t (fx_t (fx_0) (g2)) (fx_w g3 (fun _ _ => aS_c) (fun _ _ z => z)), Or.inl ⟨rfl, pq2, oq2, (cq2 ++ [(5, Int32.ofInt 1)]), ⟨ct_f (S := cS) (L := fN) (c2.1) (fx_w g3 (fun _ _ => aS_c) (fun _ _ z => z)) rfl (fun _ => rfl), tok_f (c2.2.1) g3 (fun _ => rfl), (fx_i g3 rfl).trans (c2.2.2.1), (fx_i g3 rfl).trans (c2.2.2.2.1), c0.2.2.2.2.1, (fx_i g3 rfl).trans (c2.2.2.2.2.2.1), by omega, (fx_i g3 rfl).trans (c2.2.2.2.2.2.2.2.1), by omega, cn_f (S := cS) (L := fN) (c2.2.2.2.2.2.2.2.2.2.1) (fx_w g3 (fun _ _ => aS_c) (fun _ _ z => z)) rfl (fun _ => rfl) (fun _ => rfl), (fx_i g3 rfl).trans (c2.2.2.2.2.2.2.2.2.2.2)⟩, by omega, by omega, x3, by first | omega | (simp only [List.length_append, List.length_cons, List.length_nil]; omega), VI_1 (by omega) G2⟩⟩
    · have hq := fx_q g2 hq
      refine xq_n 117 [0, 1, 2] [(0, .ref 3), (1, .int (Int32.ofInt 1)), (2, .int (Int32.ofInt 0))] [.int (Int32.ofInt 1), .int (Int32.ofInt 5), .ref 4] h2 [] 7 hq rfl trivial (fun hq => ?_)
      refine xq_run hq rfl rfl (add_q hq) ?_
      rintro v4 h4 ⟨rfl, g4⟩
      have hq := fx_q g4 hq
      refine xq_n 121 [] [] [.int (Int32.ofInt 0)] h4 [] 3 hq rfl trivial (fun hq => ?_)
      exact xq_ret rfl rfl rfl ⟨fx_t (fx_t (fx_0) (g2)) (fx_w g4 (fun _ _ => aS_c) (fun _ _ z => z)), Or.inr ⟨rfl, _, (fx_i g4 rfl).trans (f2), by omega, by omega⟩⟩
  | false =>
    have z1 : (tkk T n p) = 3 := nq_nef (a := (tkk T n p)) (b := 3) (by omega) (by omega) c1
    refine xq_m 34 [0, 1, 3, 4] [(0, .ref 3), (1, .int (Int32.ofInt 1)), (3, .int (xg 0 h.2.1 8 4)), (4, .int (xg 0 h.2.1 8 6))] [.ref 8] h [false] 19 hq rfl ⟨(show xe_c .ne (xg 0 h.2.1 8 3) (Int32.ofInt 3) = false by rw [show (xg 0 h.2.1 8 3) = (nI (tkk T n p)) from c0.2.1.1]; exact c1), trivial⟩ (fun hq => ?_)
    rw [show (xg 0 h.2.1 8 4) = (nI (tks T n p)) from c0.2.1.2.1]
    rw [show (xg 0 h.2.1 8 6) = (nI (tkn T n p)) from c0.2.1.2.2.2.1 (by omega)]
    have nz5 : tkk T n p ≠ 0 := by omega
    have le5 := tke_le nz5
    refine xq_run hq rfl rfl (adv_q hq hT (c0.1) (c0.2.2.1) ((c0.2.1.2.2.1 (by omega)).1) (by omega)) ?_
    rintro v5 h5 ⟨rfl, g5, t5⟩
    have hq := fx_q g5 hq
    have kb5 := tkk_lt (T := T) (n := n) (p := tke T n p) hT
    have s65 := tks_le (T := T) (n := n) (p := tke T n p)
    cases c6 : xe_c .ne (nI (tkk T n (tke T n p))) 42 with
    | true =>
      have z6 : (tkk T n (tke T n p)) ≠ 42 := nq_net (a := (tkk T n (tke T n p))) (b := 42) (by omega) (by omega) c6
      refine xq_n 73 [0, 1, 3, 4] [(0, .ref 3), (1, .int (Int32.ofInt 1)), (3, .int (nI (tks T n p))), (4, .int (nI (tkn T n p)))] [.float 6, .ref 8] h5 [true] 10 hq rfl ⟨(show xe_c .ne (xg 0 h5.2.1 8 3) 42 = true by rw [show (xg 0 h5.2.1 8 3) = (nI (tkk T n (tke T n p))) from t5.1]; exact c6), trivial⟩ (fun hq => ?_)
      refine xq_run hq rfl rfl (iw4_q (ct_f (S := cS) (L := fN) (c0.1) (fx_w g5 (fun _ _ => sS_c) (fun _ _ z => z)) rfl (fun _ => rfl)) (t5) hq) ?_
      rintro v7 h_v7 ⟨rfl, rfl⟩
      cases b8 : (ky T n (tke T n p) 4) with
      | true =>
        have db8 := of_decide_eq_true b8
        refine xq_n 83 [0, 1, 3, 4] [(0, .ref 3), (1, .int (Int32.ofInt 1)), (3, .int (nI (tks T n p))), (4, .int (nI (tkn T n p)))] [.int (nI (tkn T n p)), .int (nI (tks T n p)), .ref 3] h5 [false] 6 hq rfl ⟨rfl, trivial⟩ (fun hq => ?_)
        refine xq_run hq rfl rfl (iq _ _ _ _ (tks T n p) (tkn T n p) (P) ⟨ct_f (S := cS) (L := fN) (c0.1) (fx_w g5 (fun _ _ => sS_c) (fun _ _ z => z)) rfl (fun _ => rfl), t5, (fx_i g5 rfl).trans (c0.2.2.1), (fx_i g5 rfl).trans (c0.2.2.2.1), c0.2.2.2.2.1, (fx_i g5 rfl).trans (c0.2.2.2.2.2.1), by omega, (fx_i g5 rfl).trans (c0.2.2.2.2.2.2.2.1), by omega, cn_f (S := cS) (L := fN) (c0.2.2.2.2.2.2.2.2.2.1) (fx_w g5 (fun _ _ => sS_c) (fun _ _ z => z)) rfl (fun _ => rfl) (fun _ => rfl), (fx_i g5 rfl).trans (c0.2.2.2.2.2.2.2.2.2.2)⟩ (ptx_f (pt) g5 rfl (fun _ => rfl) (fun _ => rfl)) (by omega) (by omega) (by omega) (by omega) hq) ?_
        rintro v9 h9 ⟨g9, ⟨rfl, pq9, oq9, cq9, c9, lt9, le9, x9, ln9, G9⟩ | ⟨rfl, kq9, f9, ka9, kz9⟩⟩
        · have hq := fx_q g9 hq
          have kb9 := tkk_lt (T := T) (n := n) (p := pq9) hT
          have s69 := tks_le (T := T) (n := n) (p := pq9)
          refine xq_n 117 [0, 1, 2, 3, 4] [(0, .ref 3), (1, .int (Int32.ofInt 1)), (2, .int (Int32.ofInt 1)), (3, .int (nI (tks T n p))), (4, .int (nI (tkn T n p)))] [.int (Int32.ofInt 1), .int (Int32.ofInt 5), .ref 4] h9 [] 9 hq rfl trivial (fun hq => ?_)
          refine xq_run hq rfl rfl (pad_q (c := 5) (y := Int32.ofInt 1) (x9) (by first | omega | (simp only [List.length_append, List.length_cons, List.length_nil]; omega)) hq) ?_
          rintro v10 h10 ⟨rfl, g10, x10⟩
          have hq := fx_q g10 hq
          have x10 : ptx h10 (P ++ (cq9 ++ [(5, Int32.ofInt 1)])) := by simpa only [List.append_assoc] using x10
          refine xq_n 121 [] [] [.int (Int32.ofInt 1)] h10 [] 3 hq rfl trivial (fun hq => ?_)
          exact xq_ret rfl rfl rfl ⟨fx_t (fx_t (fx_t (fx_0) (fx_w g5 (fun _ _ => sS_c) (fun _ _ z => z))) (g9)) (fx_w g10 (fun _ _ => aS_c) (fun _ _ z => z)), Or.inl ⟨rfl, pq9, oq9, (cq9 ++ [(5, Int32.ofInt 1)]), ⟨ct_f (S := cS) (L := fN) (c9.1) (fx_w g10 (fun _ _ => aS_c) (fun _ _ z => z)) rfl (fun _ => rfl), tok_f (c9.2.1) g10 (fun _ => rfl), (fx_i g10 rfl).trans (c9.2.2.1), (fx_i g10 rfl).trans (c9.2.2.2.1), c0.2.2.2.2.1, (fx_i g10 rfl).trans (c9.2.2.2.2.2.1), by omega, (fx_i g10 rfl).trans (c9.2.2.2.2.2.2.2.1), by omega, cn_f (S := cS) (L := fN) (c9.2.2.2.2.2.2.2.2.2.1) (fx_w g10 (fun _ _ => aS_c) (fun _ _ z => z)) rfl (fun _ => rfl) (fun _ => rfl), (fx_i g10 rfl).trans (c9.2.2.2.2.2.2.2.2.2.2)⟩, by omega, by omega, x10, by first | omega | (simp only [List.length_append, List.length_cons, List.length_nil]; omega), VI_q (by omega) (by omega) (by assumption) G9⟩⟩
        · have hq := fx_q g9 hq
          refine xq_n 117 [0, 1, 2, 3, 4] [(0, .ref 3), (1, .int (Int32.ofInt 1)), (2, .int (Int32.ofInt 0)), (3, .int (nI (tks T n p))), (4, .int (nI (tkn T n p)))] [.int (Int32.ofInt 1), .int (Int32.ofInt 5), .ref 4] h9 [] 9 hq rfl trivial (fun hq => ?_)
          refine xq_run hq rfl rfl (add_q hq) ?_
          rintro v11 h11 ⟨rfl, g11⟩
          have hq := fx_q g11 hq
          refine xq_n 121 [] [] [.int (Int32.ofInt 0)] h11 [] 3 hq rfl trivial (fun hq => ?_)
          exact xq_ret rfl rfl rfl ⟨fx_t (fx_t (fx_t (fx_0) (fx_w g5 (fun _ _ => sS_c) (fun _ _ z => z))) (g9)) (fx_w g11 (fun _ _ => aS_c) (fun _ _ z => z)), Or.inr ⟨rfl, _, (fx_i g11 rfl).trans (f9), by omega, by omega⟩⟩
      | false =>
        have db8 := of_decide_eq_false b8
        refine xq_n 99 [0, 1, 3, 4] [(0, .ref 3), (1, .int (Int32.ofInt 1)), (3, .int (nI (tks T n p))), (4, .int (nI (tkn T n p)))] [.int (xg 0 h5.2.1 8 4), .int (Int32.ofInt 1), .ref 3] h5 [true] 8 hq rfl ⟨rfl, trivial⟩ (fun hq => ?_)
        rw [show (xg 0 h5.2.1 8 4) = (nI (tks T n (tke T n p))) from t5.2.1]
        refine xq_run hq rfl rfl (fail_q (k := 1) (pl := (tks T n (tke T n p))) hq) ?_
        rintro v12 h12 ⟨rfl, g12, f12, l12⟩
        have hq := fx_q g12 hq
        refine xq_n 117 [0, 1, 2, 3, 4] [(0, .ref 3), (1, .int (Int32.ofInt 1)), (2, .int (Int32.ofInt 0)), (3, .int (nI (tks T n p))), (4, .int (nI (tkn T n p)))] [.int (Int32.ofInt 1), .int (Int32.ofInt 5), .ref 4] h12 [] 8 hq rfl trivial (fun hq => ?_)
        refine xq_run hq rfl rfl (add_q hq) ?_
        rintro v13 h13 ⟨rfl, g13⟩
        have hq := fx_q g13 hq
        refine xq_n 121 [] [] [.int (Int32.ofInt 0)] h13 [] 3 hq rfl trivial (fun hq => ?_)
        exact xq_ret rfl rfl rfl ⟨fx_t (fx_t (fx_t (fx_0) (fx_w g5 (fun _ _ => sS_c) (fun _ _ z => z))) (fx_w g12 (fun _ _ => fS_c) (fun _ _ z => z))) (fx_w g13 (fun _ _ => aS_c) (fun _ _ z => z)), Or.inr ⟨rfl, _, (fx_i g13 rfl).trans (f12), by omega, by omega⟩⟩
    | false =>
      have z6 : (tkk T n (tke T n p)) = 42 := nq_nef (a := (tkk T n (tke T n p))) (b := 42) (by omega) (by omega) c6
      refine xq_n 56 [0, 1, 3, 4] [(0, .ref 3), (1, .int (nI (tkn T n p))), (3, .int (nI (tks T n p))), (4, .int (nI (tkn T n p)))] [.ref 8] h5 [false] 11 hq rfl ⟨(show xe_c .ne (xg 0 h5.2.1 8 3) 42 = false by rw [show (xg 0 h5.2.1 8 3) = (nI (tkk T n (tke T n p))) from t5.1]; exact c6), trivial⟩ (fun hq => ?_)
      have nz14 : tkk T n (tke T n p) ≠ 0 := by omega
      have le14 := tke_le nz14
      refine xq_run hq rfl rfl (adv_q hq hT (ct_f (S := cS) (L := fN) (c0.1) (fx_w g5 (fun _ _ => sS_c) (fun _ _ z => z)) rfl (fun _ => rfl)) ((fx_i g5 rfl).trans (c0.2.2.1)) ((t5.2.2.1 (by omega)).1) (by omega)) ?_
      rintro v14 h14 ⟨rfl, g14, t14⟩
      have hq := fx_q g14 hq
      have kb14 := tkk_lt (T := T) (n := n) (p := tke T n (tke T n p)) hT
      have s614 := tks_le (T := T) (n := n) (p := tke T n (tke T n p))
      refine xq_n 60 [0, 1, 3, 4] [(0, .ref 3), (1, .int (nI (tkn T n p))), (3, .int (nI (tks T n p))), (4, .int (nI (tkn T n p)))] [.ref 3] h14 [] 3 hq rfl trivial (fun hq => ?_)
      refine xq_run hq rfl rfl (io _ _ _ _ (P) ⟨ct_f (S := cS) (L := fN) (ct_f (S := cS) (L := fN) (c0.1) (fx_w g5 (fun _ _ => sS_c) (fun _ _ z => z)) rfl (fun _ => rfl)) (fx_w g14 (fun _ _ => sS_c) (fun _ _ z => z)) rfl (fun _ => rfl), t14, (fx_i g14 rfl).trans ((fx_i g5 rfl).trans (c0.2.2.1)), (fx_i g14 rfl).trans ((fx_i g5 rfl).trans (c0.2.2.2.1)), c0.2.2.2.2.1, (fx_i g14 rfl).trans ((fx_i g5 rfl).trans (c0.2.2.2.2.2.1)), by omega, (fx_i g14 rfl).trans ((fx_i g5 rfl).trans (c0.2.2.2.2.2.2.2.1)), by omega, cn_f (S := cS) (L := fN) (cn_f (S := cS) (L := fN) (c0.2.2.2.2.2.2.2.2.2.1) (fx_w g5 (fun _ _ => sS_c) (fun _ _ z => z)) rfl (fun _ => rfl) (fun _ => rfl)) (fx_w g14 (fun _ _ => sS_c) (fun _ _ z => z)) rfl (fun _ => rfl) (fun _ => rfl), (fx_i g14 rfl).trans ((fx_i g5 rfl).trans (c0.2.2.2.2.2.2.2.2.2.2))⟩ (ptx_f (ptx_f (pt) g5 rfl (fun _ => rfl) (fun _ => rfl)) g14 rfl (fun _ => rfl) (fun _ => rfl)) (by omega) (by omega) (by omega) hq) ?_
      rintro v15 h15 ⟨g15, ⟨rfl, pq15, oq15, cq15, c15, lt15, le15, x15, ln15, G15⟩ | ⟨rfl, kq15, f15, ka15, kz15⟩⟩
      · have hq := fx_q g15 hq
        have kb15 := tkk_lt (T := T) (n := n) (p := pq15) hT
        have s615 := tks_le (T := T) (n := n) (p := pq15)
        refine xq_n 117 [0, 1, 2, 3, 4] [(0, .ref 3), (1, .int (nI (tkn T n p))), (2, .int (Int32.ofInt 1)), (3, .int (nI (tks T n p))), (4, .int (nI (tkn T n p)))] [.int (nI (tkn T n p)), .int (Int32.ofInt 5), .ref 4] h15 [] 9 hq rfl trivial (fun hq => ?_)
        refine xq_run hq rfl rfl (pad_q (c := 5) (y := (nI (tkn T n p))) (x15) (by first | omega | (simp only [List.length_append, List.length_cons, List.length_nil]; omega)) hq) ?_
        rintro v16 h16 ⟨rfl, g16, x16⟩
        have hq := fx_q g16 hq
        have x16 : ptx h16 (P ++ (cq15 ++ [(5, (nI (tkn T n p)))])) := by simpa only [List.append_assoc] using x16
        refine xq_n 121 [] [] [.int (Int32.ofInt 1)] h16 [] 3 hq rfl trivial (fun hq => ?_)
        exact xq_ret rfl rfl rfl ⟨fx_t (fx_t (fx_t (fx_t (fx_0) (fx_w g5 (fun _ _ => sS_c) (fun _ _ z => z))) (fx_w g14 (fun _ _ => sS_c) (fun _ _ z => z))) (g15)) (fx_w g16 (fun _ _ => aS_c) (fun _ _ z => z)), Or.inl ⟨rfl, pq15, oq15, (cq15 ++ [(5, (nI (tkn T n p)))]), ⟨ct_f (S := cS) (L := fN) (c15.1) (fx_w g16 (fun _ _ => aS_c) (fun _ _ z => z)) rfl (fun _ => rfl), tok_f (c15.2.1) g16 (fun _ => rfl), (fx_i g16 rfl).trans (c15.2.2.1), (fx_i g16 rfl).trans (c15.2.2.2.1), c0.2.2.2.2.1, (fx_i g16 rfl).trans (c15.2.2.2.2.2.1), by omega, (fx_i g16 rfl).trans (c15.2.2.2.2.2.2.2.1), by omega, cn_f (S := cS) (L := fN) (c15.2.2.2.2.2.2.2.2.2.1) (fx_w g16 (fun _ _ => aS_c) (fun _ _ z => z)) rfl (fun _ => rfl) (fun _ => rfl), (fx_i g16 rfl).trans (c15.2.2.2.2.2.2.2.2.2.2)⟩, by omega, by omega, x16, by first | omega | (simp only [List.length_append, List.length_cons, List.length_nil]; omega), VI_w (by omega) (by omega) G15⟩⟩
      · have hq := fx_q g15 hq
        refine xq_n 117 [0, 1, 2, 3, 4] [(0, .ref 3), (1, .int (nI (tkn T n p))), (2, .int (Int32.ofInt 0)), (3, .int (nI (tks T n p))), (4, .int (nI (tkn T n p)))] [.int (nI (tkn T n p)), .int (Int32.ofInt 5), .ref 4] h15 [] 9 hq rfl trivial (fun hq => ?_)
        refine xq_run hq rfl rfl (add_q hq) ?_
        rintro v17 h17 ⟨rfl, g17⟩
        have hq := fx_q g17 hq
        refine xq_n 121 [] [] [.int (Int32.ofInt 0)] h17 [] 3 hq rfl trivial (fun hq => ?_)
        exact xq_ret rfl rfl rfl ⟨fx_t (fx_t (fx_t (fx_t (fx_0) (fx_w g5 (fun _ _ => sS_c) (fun _ _ z => z))) (fx_w g14 (fun _ _ => sS_c) (fun _ _ z => z))) (g15)) (fx_w g17 (fun _ _ => aS_c) (fun _ _ z => z)), Or.inr ⟨rfl, _, (fx_i g17 rfl).trans (f15), by omega, by omega⟩⟩
set_option maxRecDepth 100000 in
set_option maxHeartbeats 4000000 in
theorem all_lpp {f p o d : Nat} {P : cdL} {h0 : xh_H} (io : pOne T n mem nn NM f) (o6 : o ≤ 120) (d12 : d ≤ 12) (pl : P.length ≤ 3 * o + 16) : ∀ g, g ≤ f → ∀ (h : xh_H) (i p1 o1 : Nat) (cz : cdL), cr h T n mem nn NM p1 o1 d → fx cS fN h0 h → ptx h (P ++ cz) → o + 1 + i ≤ o1 → o1 ≤ 120 → cz.length + 2 ≤ 3 * (o1 - o) → VA T n mem nn (nmW T NM) d p o p1 o1 cz → a_rq a_tb h → xq g xi_X4_readAll xmi_X4_readAll 7 [(0, .ref 3), (1, .int (Int32.ofInt 1)), (2, .int (nI i))] [] h (rP h0 T n mem nn NM o d P 2 (fun p' o' c => ky T n p' 2 = false ∧ VA T n mem nn (nmW T NM) d p o p' o' c)) := by
  intro g
  induction g with
  | zero => intros; exact xq_0
  | succ g ihg =>
    intro hg h i p1 o1 cz c0 g0 pt hi ho hc GG hq
    have hT : ∀ k, k < n → T k < 256 := fun k hk' => (c0.1.2.2 k hk').1
    have kb := tkk_lt (T := T) (n := n) (p := p1) hT
    have n6 := c0.1.2.1
    have s6 := tks_le (T := T) (n := n) (p := p1)
    have mm := c0.2.2.2.2.1
    have n16 := c0.2.2.2.2.2.2.2.2.2.1.2.1
    cases c1 : xe_c .gt (nI i) 120 with
    | true =>
      have z1 : i > 120 := nq_gtt (a := i) (b := 120) (by omega) (by omega) c1
      omega
    | false =>
      have z1 : i ≤ 120 := nq_gtf (a := i) (b := 120) (by omega) (by omega) c1
      refine xq_m 23 [0, 1, 2] [(0, .ref 3), (1, .int (Int32.ofInt 1)), (2, .int (nI i))] [.float 4, .ref 8] h [false, false] 10 hq rfl ⟨c1, (by decide), trivial⟩ (fun hq => ?_)
      refine xq_run hq rfl rfl (iw2_q (c0.1) (c0.2.1) hq) ?_
      rintro v2 h_v2 ⟨rfl, rfl⟩
      cases b3 : (ky T n p1 2) with
      | true =>
        have db3 := of_decide_eq_true b3
        refine xq_n 33 [0, 1, 2] [(0, .ref 3), (1, .int (Int32.ofInt 1)), (2, .int (nI i))] [.ref 8] h [false] 5 hq rfl ⟨rfl, trivial⟩ (fun hq => ?_)
        have nz4 : tkk T n p1 ≠ 0 := by omega
        have le4 := tke_le nz4
        refine xq_run hq rfl rfl (adv_q hq hT (c0.1) (c0.2.2.1) ((c0.2.1.2.2.1 (by omega)).1) (by omega)) ?_
        rintro v4 h4 ⟨rfl, g4, t4⟩
        have hq := fx_q g4 hq
        have kb4 := tkk_lt (T := T) (n := n) (p := tke T n p1) hT
        have s64 := tks_le (T := T) (n := n) (p := tke T n p1)
        refine xq_n 37 [0, 1, 2] [(0, .ref 3), (1, .int (Int32.ofInt 1)), (2, .int (nI i))] [.ref 3] h4 [] 3 hq rfl trivial (fun hq => ?_)
        refine xq_run hq rfl rfl (xq_le (by omega) (io _ _ _ _ (P ++ cz) ⟨ct_f (S := cS) (L := fN) (c0.1) (fx_w g4 (fun _ _ => sS_c) (fun _ _ z => z)) rfl (fun _ => rfl), t4, (fx_i g4 rfl).trans (c0.2.2.1), (fx_i g4 rfl).trans (c0.2.2.2.1), c0.2.2.2.2.1, (fx_i g4 rfl).trans (c0.2.2.2.2.2.1), by omega, (fx_i g4 rfl).trans (c0.2.2.2.2.2.2.2.1), by omega, cn_f (S := cS) (L := fN) (c0.2.2.2.2.2.2.2.2.2.1) (fx_w g4 (fun _ _ => sS_c) (fun _ _ z => z)) rfl (fun _ => rfl) (fun _ => rfl), (fx_i g4 rfl).trans (c0.2.2.2.2.2.2.2.2.2.2)⟩ (ptx_f (pt) g4 rfl (fun _ => rfl) (fun _ => rfl)) (by first | omega | (simp only [List.length_append, List.length_cons, List.length_nil]; omega)) (by omega) (by omega) hq)) ?_
        rintro v5 h5 ⟨g5, ⟨rfl, pq5, oq5, cq5, c5, lt5, le5, x5, ln5, G5⟩ | ⟨rfl, kq5, f5, ka5, kz5⟩⟩
        · have hq := fx_q g5 hq
          have x5 : ptx h5 (P ++ (cz ++ cq5)) := by simpa only [List.append_assoc] using x5
          have kb5 := tkk_lt (T := T) (n := n) (p := pq5) hT
          have s65 := tks_le (T := T) (n := n) (p := pq5)
          refine xq_n 47 [0, 1, 2] [(0, .ref 3), (1, .int (Int32.ofInt 1)), (2, .int (nI i))] [.int (Int32.ofInt 0), .int (Int32.ofInt 2), .ref 4] h5 [] 7 hq rfl trivial (fun hq => ?_)
          refine xq_run hq rfl rfl (pad_q (c := 2) (y := Int32.ofInt 0) (x5) (by first | omega | (simp only [List.length_append, List.length_cons, List.length_nil]; omega)) hq) ?_
          rintro v6 h6 ⟨rfl, g6, x6⟩
          have hq := fx_q g6 hq
          have x6 : ptx h6 (P ++ (cz ++ (cq5 ++ [(2, Int32.ofInt 0)]))) := by simpa only [List.append_assoc] using x6
          refine xq_n 7 [0, 1, 2] [(0, .ref 3), (1, .int (Int32.ofInt 1)), (2, .int ((nI i) + Int32.ofInt 1))] [] h6 [] 4 hq rfl trivial (fun hq => ?_)
          rw [show ((nI i) + Int32.ofInt 1) = nI (i + 1) from nI_1 _]
          exact ihg (by omega) _ (i + 1) pq5 oq5 (cz ++ (cq5 ++ [(2, Int32.ofInt 0)])) ⟨ct_f (S := cS) (L := fN) (c5.1) (fx_w g6 (fun _ _ => aS_c) (fun _ _ z => z)) rfl (fun _ => rfl), tok_f (c5.2.1) g6 (fun _ => rfl), (fx_i g6 rfl).trans (c5.2.2.1), (fx_i g6 rfl).trans (c5.2.2.2.1), c0.2.2.2.2.1, (fx_i g6 rfl).trans (c5.2.2.2.2.2.1), by omega, (fx_i g6 rfl).trans (c5.2.2.2.2.2.2.2.1), by omega, cn_f (S := cS) (L := fN) (c5.2.2.2.2.2.2.2.2.2.1) (fx_w g6 (fun _ _ => aS_c) (fun _ _ z => z)) rfl (fun _ => rfl) (fun _ => rfl), (fx_i g6 rfl).trans (c5.2.2.2.2.2.2.2.2.2.2)⟩ (fx_t (fx_t (fx_t (g0) (fx_w g4 (fun _ _ => sS_c) (fun _ _ z => z))) (g5)) (fx_w g6 (fun _ _ => aS_c) (fun _ _ z => z))) (x6) (by omega) (by omega) (by first | omega | (simp only [List.length_append, List.length_cons, List.length_nil]; omega)) (VA_s d12 GG b3 G5) hq
        · have hq := fx_q g5 hq
          refine xq_n 47 [0, 1, 2] [(0, .ref 3), (1, .int (Int32.ofInt 0)), (2, .int (nI i))] [.int (Int32.ofInt 0), .int (Int32.ofInt 2), .ref 4] h5 [] 7 hq rfl trivial (fun hq => ?_)
          refine xq_run hq rfl rfl (add_q hq) ?_
          rintro v7 h7 ⟨rfl, g7⟩
          have hq := fx_q g7 hq
          refine xq_n 7 [0, 1, 2] [(0, .ref 3), (1, .int (Int32.ofInt 0)), (2, .int ((nI i) + Int32.ofInt 1))] [] h7 [] 4 hq rfl trivial (fun hq => ?_)
          rw [show ((nI i) + Int32.ofInt 1) = nI (i + 1) from nI_1 _]
          refine xq_mono (all_z hq) (fun v h' e => ?_)
          obtain ⟨rfl, rfl⟩ := e
          exact ⟨fx_t (fx_t (fx_t (g0) (fx_w g4 (fun _ _ => sS_c) (fun _ _ z => z))) (g5)) (fx_w g7 (fun _ _ => aS_c) (fun _ _ z => z)), Or.inr ⟨rfl, _, (fx_i g7 rfl).trans (f5), by omega, by omega⟩⟩
      | false =>
        have db3 := of_decide_eq_false b3
        refine xq_n 57 [] [] [.int (Int32.ofInt 1)] h [true] 4 hq rfl ⟨rfl, trivial⟩ (fun hq => ?_)
        exact xq_ret rfl rfl rfl ⟨g0, Or.inl ⟨rfl, p1, o1, cz, c0, by omega, by omega, pt, by omega, b3, GG⟩⟩
set_option maxRecDepth 100000 in
set_option maxHeartbeats 4000000 in
theorem all_p {f : Nat} (io : pOne T n mem nn NM f) : pAll T n mem nn NM (f + 1) := by
  intro h p o d P c0 pt pl o6 d12 hq
  have hT : ∀ k, k < n → T k < 256 := fun k hk' => (c0.1.2.2 k hk').1
  have kb := tkk_lt (T := T) (n := n) (p := p) hT
  have n6 := c0.1.2.1
  have s6 := tks_le (T := T) (n := n) (p := p)
  have mm := c0.2.2.2.2.1
  have n16 := c0.2.2.2.2.2.2.2.2.2.1.2.1
  refine xq_m 1 [0] [(0, .ref 3)] [.ref 3] h [] 3 hq rfl trivial (fun hq => ?_)
  refine xq_run hq rfl rfl (io _ _ _ _ (P) c0 (pt) (by omega) (by omega) (by omega) hq) ?_
  rintro v1 h1 ⟨g1, ⟨rfl, pq1, oq1, cq1, c1, lt1, le1, x1, ln1, G1⟩ | ⟨rfl, kq1, f1, ka1, kz1⟩⟩
  · have hq := fx_q g1 hq
    have kb1 := tkk_lt (T := T) (n := n) (p := pq1) hT
    have s61 := tks_le (T := T) (n := n) (p := pq1)
    refine xq_n 7 [0, 1, 2] [(0, .ref 3), (1, .int (Int32.ofInt 1)), (2, .int (Int32.ofInt 0))] [] h1 [] 5 hq rfl trivial (fun hq => ?_)
    exact all_lpp io o6 d12 pl f (Nat.le_refl _) _ 0 pq1 oq1 cq1 c1 (fx_t (fx_0) (g1)) (x1) (by omega) (by omega) (by omega) (VA_1 d12 G1) hq
  · have hq := fx_q g1 hq
    refine xq_n 7 [0, 1, 2] [(0, .ref 3), (1, .int (Int32.ofInt 0)), (2, .int (Int32.ofInt 0))] [] h1 [] 5 hq rfl trivial (fun hq => ?_)
    refine xq_mono (all_z hq) (fun v h' e => ?_)
    obtain ⟨rfl, rfl⟩ := e
    exact ⟨fx_t (fx_0) (g1), Or.inr ⟨rfl, _, f1, by omega, by omega⟩⟩
set_option maxRecDepth 100000 in
set_option maxHeartbeats 4000000 in
theorem rul_lpp {f p o d : Nat} {P : cdL} {h0 : xh_H} (ia : pAll T n mem nn NM f) (o6 : o ≤ 120) (d12 : d ≤ 12) (pl : P.length ≤ 3 * o + 16) : ∀ g, g ≤ f → ∀ (h : xh_H) (i p1 o1 : Nat) (cz : cdL), cr h T n mem nn NM p1 o1 d → fx cS fN h0 h → ptx h (P ++ cz) → o + 1 + i ≤ o1 → o1 ≤ 120 → cz.length + 2 ≤ 3 * (o1 - o) → ky T n p1 2 = false → VR T n mem nn (nmW T NM) d p o p1 o1 cz → a_rq a_tb h → xq g xi_X4_readRule xmi_X4_readRule 7 [(0, .ref 3), (1, .int (Int32.ofInt 1)), (2, .int (nI i))] [] h (rP h0 T n mem nn NM o d P 2 (fun p' o' c => ky T n p' 2 = false ∧ ky T n p' 3 = false ∧ VR T n mem nn (nmW T NM) d p o p' o' c)) := by
  intro g
  induction g with
  | zero => intros; exact xq_0
  | succ g ihg =>
    intro hg h i p1 o1 cz c0 g0 pt hi ho hc k2 GG hq
    have hT : ∀ k, k < n → T k < 256 := fun k hk' => (c0.1.2.2 k hk').1
    have kb := tkk_lt (T := T) (n := n) (p := p1) hT
    have n6 := c0.1.2.1
    have s6 := tks_le (T := T) (n := n) (p := p1)
    have mm := c0.2.2.2.2.1
    have n16 := c0.2.2.2.2.2.2.2.2.2.1.2.1
    cases c1 : xe_c .gt (nI i) 120 with
    | true =>
      have z1 : i > 120 := nq_gtt (a := i) (b := 120) (by omega) (by omega) c1
      omega
    | false =>
      have z1 : i ≤ 120 := nq_gtf (a := i) (b := 120) (by omega) (by omega) c1
      refine xq_m 23 [0, 1, 2] [(0, .ref 3), (1, .int (Int32.ofInt 1)), (2, .int (nI i))] [.float 5, .ref 8] h [false, false] 10 hq rfl ⟨c1, (by decide), trivial⟩ (fun hq => ?_)
      refine xq_run hq rfl rfl (iw3_q (c0.1) (c0.2.1) hq) ?_
      rintro v2 h_v2 ⟨rfl, rfl⟩
      cases b3 : (ky T n p1 3) with
      | true =>
        have db3 := of_decide_eq_true b3
        refine xq_n 33 [0, 1, 2] [(0, .ref 3), (1, .int (Int32.ofInt 1)), (2, .int (nI i))] [.ref 8] h [false] 5 hq rfl ⟨rfl, trivial⟩ (fun hq => ?_)
        have nz4 : tkk T n p1 ≠ 0 := by omega
        have le4 := tke_le nz4
        refine xq_run hq rfl rfl (adv_q hq hT (c0.1) (c0.2.2.1) ((c0.2.1.2.2.1 (by omega)).1) (by omega)) ?_
        rintro v4 h4 ⟨rfl, g4, t4⟩
        have hq := fx_q g4 hq
        have kb4 := tkk_lt (T := T) (n := n) (p := tke T n p1) hT
        have s64 := tks_le (T := T) (n := n) (p := tke T n p1)
        refine xq_n 37 [0, 1, 2] [(0, .ref 3), (1, .int (Int32.ofInt 1)), (2, .int (nI i))] [.ref 3] h4 [] 3 hq rfl trivial (fun hq => ?_)
        refine xq_run hq rfl rfl (xq_le (by omega) (ia _ _ _ _ (P ++ cz) ⟨ct_f (S := cS) (L := fN) (c0.1) (fx_w g4 (fun _ _ => sS_c) (fun _ _ z => z)) rfl (fun _ => rfl), t4, (fx_i g4 rfl).trans (c0.2.2.1), (fx_i g4 rfl).trans (c0.2.2.2.1), c0.2.2.2.2.1, (fx_i g4 rfl).trans (c0.2.2.2.2.2.1), by omega, (fx_i g4 rfl).trans (c0.2.2.2.2.2.2.2.1), by omega, cn_f (S := cS) (L := fN) (c0.2.2.2.2.2.2.2.2.2.1) (fx_w g4 (fun _ _ => sS_c) (fun _ _ z => z)) rfl (fun _ => rfl) (fun _ => rfl), (fx_i g4 rfl).trans (c0.2.2.2.2.2.2.2.2.2.2)⟩ (ptx_f (pt) g4 rfl (fun _ => rfl) (fun _ => rfl)) (by first | omega | (simp only [List.length_append, List.length_cons, List.length_nil]; omega)) (by omega) (by omega) hq)) ?_
        rintro v5 h5 ⟨g5, ⟨rfl, pq5, oq5, cq5, c5, lt5, le5, x5, ln5, G5⟩ | ⟨rfl, kq5, f5, ka5, kz5⟩⟩
        · have hq := fx_q g5 hq
          have x5 : ptx h5 (P ++ (cz ++ cq5)) := by simpa only [List.append_assoc] using x5
          have kb5 := tkk_lt (T := T) (n := n) (p := pq5) hT
          have s65 := tks_le (T := T) (n := n) (p := pq5)
          refine xq_n 47 [0, 1, 2] [(0, .ref 3), (1, .int (Int32.ofInt 1)), (2, .int (nI i))] [.int (Int32.ofInt 0), .int (Int32.ofInt 3), .ref 4] h5 [] 7 hq rfl trivial (fun hq => ?_)
          refine xq_run hq rfl rfl (pad_q (c := 3) (y := Int32.ofInt 0) (x5) (by first | omega | (simp only [List.length_append, List.length_cons, List.length_nil]; omega)) hq) ?_
          rintro v6 h6 ⟨rfl, g6, x6⟩
          have hq := fx_q g6 hq
          have x6 : ptx h6 (P ++ (cz ++ (cq5 ++ [(3, Int32.ofInt 0)]))) := by simpa only [List.append_assoc] using x6
          refine xq_n 7 [0, 1, 2] [(0, .ref 3), (1, .int (Int32.ofInt 1)), (2, .int ((nI i) + Int32.ofInt 1))] [] h6 [] 4 hq rfl trivial (fun hq => ?_)
          rw [show ((nI i) + Int32.ofInt 1) = nI (i + 1) from nI_1 _]
          exact ihg (by omega) _ (i + 1) pq5 oq5 (cz ++ (cq5 ++ [(3, Int32.ofInt 0)])) ⟨ct_f (S := cS) (L := fN) (c5.1) (fx_w g6 (fun _ _ => aS_c) (fun _ _ z => z)) rfl (fun _ => rfl), tok_f (c5.2.1) g6 (fun _ => rfl), (fx_i g6 rfl).trans (c5.2.2.1), (fx_i g6 rfl).trans (c5.2.2.2.1), c0.2.2.2.2.1, (fx_i g6 rfl).trans (c5.2.2.2.2.2.1), by omega, (fx_i g6 rfl).trans (c5.2.2.2.2.2.2.2.1), by omega, cn_f (S := cS) (L := fN) (c5.2.2.2.2.2.2.2.2.2.1) (fx_w g6 (fun _ _ => aS_c) (fun _ _ z => z)) rfl (fun _ => rfl) (fun _ => rfl), (fx_i g6 rfl).trans (c5.2.2.2.2.2.2.2.2.2.2)⟩ (fx_t (fx_t (fx_t (g0) (fx_w g4 (fun _ _ => sS_c) (fun _ _ z => z))) (g5)) (fx_w g6 (fun _ _ => aS_c) (fun _ _ z => z))) (x6) (by omega) (by omega) (by first | omega | (simp only [List.length_append, List.length_cons, List.length_nil]; omega)) G5.1 (VR_s d12 GG k2 b3 G5.2) hq
        · have hq := fx_q g5 hq
          refine xq_n 47 [0, 1, 2] [(0, .ref 3), (1, .int (Int32.ofInt 0)), (2, .int (nI i))] [.int (Int32.ofInt 0), .int (Int32.ofInt 3), .ref 4] h5 [] 7 hq rfl trivial (fun hq => ?_)
          refine xq_run hq rfl rfl (add_q hq) ?_
          rintro v7 h7 ⟨rfl, g7⟩
          have hq := fx_q g7 hq
          refine xq_n 7 [0, 1, 2] [(0, .ref 3), (1, .int (Int32.ofInt 0)), (2, .int ((nI i) + Int32.ofInt 1))] [] h7 [] 4 hq rfl trivial (fun hq => ?_)
          rw [show ((nI i) + Int32.ofInt 1) = nI (i + 1) from nI_1 _]
          refine xq_mono (rul_z hq) (fun v h' e => ?_)
          obtain ⟨rfl, rfl⟩ := e
          exact ⟨fx_t (fx_t (fx_t (g0) (fx_w g4 (fun _ _ => sS_c) (fun _ _ z => z))) (g5)) (fx_w g7 (fun _ _ => aS_c) (fun _ _ z => z)), Or.inr ⟨rfl, _, (fx_i g7 rfl).trans (f5), by omega, by omega⟩⟩
      | false =>
        have db3 := of_decide_eq_false b3
        refine xq_n 57 [] [] [.int (Int32.ofInt 1)] h [true] 4 hq rfl ⟨rfl, trivial⟩ (fun hq => ?_)
        exact xq_ret rfl rfl rfl ⟨g0, Or.inl ⟨rfl, p1, o1, cz, c0, by omega, by omega, pt, by omega, k2, b3, GG⟩⟩
set_option maxRecDepth 100000 in
set_option maxHeartbeats 4000000 in
theorem rul_p {f : Nat} (ia : pAll T n mem nn NM f) : pRule T n mem nn NM (f + 1) := by
  intro h p o d P c0 pt pl o6 d12 hq
  have hT : ∀ k, k < n → T k < 256 := fun k hk' => (c0.1.2.2 k hk').1
  have kb := tkk_lt (T := T) (n := n) (p := p) hT
  have n6 := c0.1.2.1
  have s6 := tks_le (T := T) (n := n) (p := p)
  have mm := c0.2.2.2.2.1
  have n16 := c0.2.2.2.2.2.2.2.2.2.1.2.1
  refine xq_m 1 [0] [(0, .ref 3)] [.ref 3] h [] 3 hq rfl trivial (fun hq => ?_)
  refine xq_run hq rfl rfl (ia _ _ _ _ (P) c0 (pt) (by omega) (by omega) (by omega) hq) ?_
  rintro v1 h1 ⟨g1, ⟨rfl, pq1, oq1, cq1, c1, lt1, le1, x1, ln1, G1⟩ | ⟨rfl, kq1, f1, ka1, kz1⟩⟩
  · have hq := fx_q g1 hq
    have kb1 := tkk_lt (T := T) (n := n) (p := pq1) hT
    have s61 := tks_le (T := T) (n := n) (p := pq1)
    refine xq_n 7 [0, 1, 2] [(0, .ref 3), (1, .int (Int32.ofInt 1)), (2, .int (Int32.ofInt 0))] [] h1 [] 5 hq rfl trivial (fun hq => ?_)
    exact rul_lpp ia o6 d12 pl f (Nat.le_refl _) _ 0 pq1 oq1 cq1 c1 (fx_t (fx_0) (g1)) (x1) (by omega) (by omega) (by omega) G1.1 (VR_1 d12 G1.2) hq
  · have hq := fx_q g1 hq
    refine xq_n 7 [0, 1, 2] [(0, .ref 3), (1, .int (Int32.ofInt 0)), (2, .int (Int32.ofInt 0))] [] h1 [] 5 hq rfl trivial (fun hq => ?_)
    refine xq_mono (rul_z hq) (fun v h' e => ?_)
    obtain ⟨rfl, rfl⟩ := e
    exact ⟨fx_t (fx_0) (g1), Or.inr ⟨rfl, _, f1, by omega, by omega⟩⟩
set_option maxRecDepth 100000 in
set_option maxHeartbeats 4000000 in
theorem qu_lpp {f p o d st num : Nat} {P : cdL} {h0 : xh_H} (ii : pItem T n mem nn NM f) (o6 : o ≤ 119) (d12 : d ≤ 11) (n9 : num ≤ 999) (pl : P.length ≤ 3 * o + 16) (n0 : num ≠ 0) (k4 : ky T n p 4 = true) (k91 : tkk T n (tke T n p) = 91) : ∀ g, g ≤ f → ∀ (h : xh_H) (i p1 o1 : Nat) (cz : cdL), cr h T n mem nn NM p1 o1 (d + 1) → fx cS fN h0 h → ptx h (P ++ cz) → o + 2 + i ≤ o1 → o1 ≤ 120 → cz.length + 3 ≤ 3 * (o1 - o) → VS T n mem nn (nmW T NM) d (tke T n (tke T n p)) o num p1 o1 cz → a_rq a_tb h → xq g xi_X4_readQuota xmi_X4_readQuota 57 [(0, .ref 3), (2, .int (nI num)), (3, .int (Int32.ofInt 1)), (4, .int (nI i))] [] h (rP h0 T n mem nn NM o d P 2 (VQ T n mem nn (nmW T NM) d p o st num)) := by
  intro g
  induction g with
  | zero => intros; exact xq_0
  | succ g ihg =>
    intro hg h i p1 o1 cz c0 g0 pt hi ho hc GG hq
    have hT : ∀ k, k < n → T k < 256 := fun k hk' => (c0.1.2.2 k hk').1
    have kb := tkk_lt (T := T) (n := n) (p := p1) hT
    have n6 := c0.1.2.1
    have s6 := tks_le (T := T) (n := n) (p := p1)
    have mm := c0.2.2.2.2.1
    have n16 := c0.2.2.2.2.2.2.2.2.2.1.2.1
    cases c1 : xe_c .gt (nI i) 120 with
    | true =>
      have z1 : i > 120 := nq_gtt (a := i) (b := 120) (by omega) (by omega) c1
      omega
    | false =>
      have z1 : i ≤ 120 := nq_gtf (a := i) (b := 120) (by omega) (by omega) c1
      cases c2 : xe_c .eq (nI (tkk T n p1)) 93 with
      | true =>
        have z2 : (tkk T n p1) = 93 := nq_eqt (a := (tkk T n p1)) (b := 93) (by omega) (by omega) c2
        refine xq_m 98 [0, 2, 3, 4] [(0, .ref 3), (2, .int (nI num)), (3, .int (Int32.ofInt 1)), (4, .int (nI i))] [.int (nI num), .int 6, .ref 4] h [false, false, true] 16 hq rfl ⟨c1, (by decide), (show xe_c .eq (xg 0 h.2.1 8 3) 93 = true by rw [show (xg 0 h.2.1 8 3) = (nI (tkk T n p1)) from c0.2.1.1]; exact c2), trivial⟩ (fun hq => ?_)
        refine xq_run hq rfl rfl (pad_q (c := 6) (y := nI num) (pt) (by first | omega | (simp only [List.length_append, List.length_cons, List.length_nil]; omega)) hq) ?_
        rintro v3 h3 ⟨rfl, g3, x3⟩
        have hq := fx_q g3 hq
        have x3 : ptx h3 (P ++ (cz ++ [(6, nI num)])) := by simpa only [List.append_assoc] using x3
        refine xq_n 118 [0, 2, 3, 4] [(0, .ref 3), (2, .int (nI num)), (3, .int (Int32.ofInt 1)), (4, .int (nI i))] [.int 93, .ref 3] (xh_ui h3 3 6 ((xg 0 h3.2.1 3 6) - (Int32.ofInt 1))) [false] 12 hq rfl ⟨(by decide), trivial⟩ (fun _ => ?_)
        rw [show (xg 0 h3.2.1 3 6) = (nI (d + 1)) from (fx_i g3 rfl).trans (c0.2.2.2.2.2.2.2.1)]
        rw [show ((nI (d + 1)) - (Int32.ofInt 1)) = nI ((d + 1) - 1) from nI_dec1 (by omega)]
        rw [show (nI ((d + 1) - 1)) = nI d from (by rw [Nat.add_sub_cancel])]
        have hq : a_rq a_tb (xh_ui h3 3 6 (nI d)) := a_rq_ui hq
        refine xq_run hq rfl rfl (xq_and (ts_q (c := 93) (by decide) (by decide) ⟨ct_f (S := cS) (L := fN) (ct_f (S := cS) (L := fN) (c0.1) (fx_w g3 (fun _ _ => aS_c) (fun _ _ z => z)) rfl (fun _ => rfl)) (fx_ui fx_0 rfl) rfl (fun _ => rfl), tok_f (S := fun c k => Nat.beq c 3) (L := fN) (tok_f (c0.2.1) g3 (fun _ => rfl)) (fx_ui fx_0 rfl) (fun _ => rfl), (gx_o (by decide)).trans ((fx_i g3 rfl).trans (c0.2.2.1)), (gx_k (by decide)).trans ((fx_i g3 rfl).trans (c0.2.2.2.1)), c0.2.2.2.2.1, (gx_k (by decide)).trans ((fx_i g3 rfl).trans (c0.2.2.2.2.2.1)), by omega, gx_s, by omega, cn_f (S := cS) (L := fN) (cn_f (S := cS) (L := fN) (c0.2.2.2.2.2.2.2.2.2.1) (fx_w g3 (fun _ _ => aS_c) (fun _ _ z => z)) rfl (fun _ => rfl) (fun _ => rfl)) (fx_ui fx_0 rfl) rfl (fun _ => rfl) (fun _ => rfl), (gx_k (by decide)).trans ((fx_i g3 rfl).trans (c0.2.2.2.2.2.2.2.2.2.2))⟩ hq) (ts_n (c := 93) (by decide) (by decide) ⟨ct_f (S := cS) (L := fN) (ct_f (S := cS) (L := fN) (c0.1) (fx_w g3 (fun _ _ => aS_c) (fun _ _ z => z)) rfl (fun _ => rfl)) (fx_ui fx_0 rfl) rfl (fun _ => rfl), tok_f (S := fun c k => Nat.beq c 3) (L := fN) (tok_f (c0.2.1) g3 (fun _ => rfl)) (fx_ui fx_0 rfl) (fun _ => rfl), (gx_o (by decide)).trans ((fx_i g3 rfl).trans (c0.2.2.1)), (gx_k (by decide)).trans ((fx_i g3 rfl).trans (c0.2.2.2.1)), c0.2.2.2.2.1, (gx_k (by decide)).trans ((fx_i g3 rfl).trans (c0.2.2.2.2.2.1)), by omega, gx_s, by omega, cn_f (S := cS) (L := fN) (cn_f (S := cS) (L := fN) (c0.2.2.2.2.2.2.2.2.2.1) (fx_w g3 (fun _ _ => aS_c) (fun _ _ z => z)) rfl (fun _ => rfl) (fun _ => rfl)) (fx_ui fx_0 rfl) rfl (fun _ => rfl) (fun _ => rfl), (gx_k (by decide)).trans ((fx_i g3 rfl).trans (c0.2.2.2.2.2.2.2.2.2.2))⟩ hq)) ?_
        rintro v4 h4 ⟨⟨g4, l4, q4⟩, n4⟩
        have hq := fx_q g4 hq
        by_cases w4_0 : tkk T n p1 ≠ 93
        · obtain ⟨rfl, f4, y4, z4, e64, e4⟩ := q4 1 (tks T n p1) (by unfold kS; rw [if_pos w4_0])
          refine xq_n 129 [] [] [.int (Int32.ofInt 0)] h4 [true] 4 hq rfl ⟨(by decide), trivial⟩ (fun hq => ?_)
          exfalso; omega
        · skip
          obtain ⟨rfl, c4⟩ := l4 (tke T n p1) (o1) (d) (by unfold kS; rw [if_neg w4_0])
          have kb4 := tkk_lt (T := T) (n := n) (p := tke T n p1) hT
          have s64 := tks_le (T := T) (n := n) (p := tke T n p1)
          refine xq_n 129 [] [] [.int (Int32.ofInt 1)] h4 [false] 5 hq rfl ⟨(by decide), trivial⟩ (fun hq => ?_)
          exact xq_ret rfl rfl rfl ⟨fx_t (fx_ui (fx_t (g0) (fx_w g3 (fun _ _ => aS_c) (fun _ _ z => z))) rfl) (g4), Or.inl ⟨rfl, tke T n p1, o1, (cz ++ [(6, nI num)]), c4, by omega, by omega, ptx_n (ptx_f (S := fun c k => Nat.beq c 3) (L := fN) (x3) (fx_ui fx_0 rfl) rfl (fun _ => rfl) (fun _ => rfl)) n4, by first | omega | (simp only [List.length_append, List.length_cons, List.length_nil]; omega), VQ_e (by omega) GG (by omega) n0 (by omega) k4 k91⟩⟩
      | false =>
        have z2 : (tkk T n p1) ≠ 93 := nq_eqf (a := (tkk T n p1)) (b := 93) (by omega) (by omega) c2
        refine xq_m 81 [0, 2, 3, 4] [(0, .ref 3), (2, .int (nI num)), (3, .int (Int32.ofInt 1)), (4, .int (nI i))] [.ref 3] h [false, false, false] 13 hq rfl ⟨c1, (by decide), (show xe_c .eq (xg 0 h.2.1 8 3) 93 = false by rw [show (xg 0 h.2.1 8 3) = (nI (tkk T n p1)) from c0.2.1.1]; exact c2), trivial⟩ (fun hq => ?_)
        refine xq_run hq rfl rfl (xq_le (by omega) (ii _ _ _ _ (P ++ cz) c0 (pt) (by first | omega | (simp only [List.length_append, List.length_cons, List.length_nil]; omega)) (by omega) (by omega) hq)) ?_
        rintro v5 h5 ⟨g5, ⟨rfl, pq5, oq5, cq5, c5, lt5, le5, x5, ln5, G5⟩ | ⟨rfl, kq5, f5, ka5, kz5⟩⟩
        · have hq := fx_q g5 hq
          have x5 : ptx h5 (P ++ (cz ++ cq5)) := by simpa only [List.append_assoc] using x5
          have kb5 := tkk_lt (T := T) (n := n) (p := pq5) hT
          have s65 := tks_le (T := T) (n := n) (p := pq5)
          refine xq_n 57 [0, 2, 3, 4] [(0, .ref 3), (2, .int (nI num)), (3, .int (Int32.ofInt 1)), (4, .int ((nI i) + Int32.ofInt 1))] [] h5 [] 5 hq rfl trivial (fun hq => ?_)
          rw [show ((nI i) + Int32.ofInt 1) = nI (i + 1) from nI_1 _]
          exact ihg (by omega) _ (i + 1) pq5 oq5 (cz ++ cq5) c5 (fx_t (g0) (g5)) (x5) (by omega) (by omega) (by first | omega | (simp only [List.length_append, List.length_cons, List.length_nil]; omega)) (VS_s (by omega) GG (by omega) G5) hq
        · have hq := fx_q g5 hq
          refine xq_n 57 [0, 2, 3, 4] [(0, .ref 3), (2, .int (nI num)), (3, .int (Int32.ofInt 0)), (4, .int ((nI i) + Int32.ofInt 1))] [] h5 [] 5 hq rfl trivial (fun hq => ?_)
          rw [show ((nI i) + Int32.ofInt 1) = nI (i + 1) from nI_1 _]
          refine xq_mono (qz_q hq) (fun v h' e => ?_)
          obtain ⟨rfl, gz⟩ := e
          exact ⟨fx_t (fx_t (g0) (g5)) (fx_w gz (fun _ _ => zS_c) (fun _ _ z => z)), Or.inr ⟨rfl, _, (fx_i gz rfl).trans (f5), by omega, by omega⟩⟩
set_option maxRecDepth 100000 in
set_option maxHeartbeats 4000000 in
theorem quo_p {f : Nat} (ii : pItem T n mem nn NM f) : pQuota T n mem nn NM (f + 1) := by
  intro h p o d st num P c0 pt pl o6 d12 n9 hq
  have hT : ∀ k, k < n → T k < 256 := fun k hk' => (c0.1.2.2 k hk').1
  have kb := tkk_lt (T := T) (n := n) (p := p) hT
  have n6 := c0.1.2.1
  have s6 := tks_le (T := T) (n := n) (p := p)
  have mm := c0.2.2.2.2.1
  have n16 := c0.2.2.2.2.2.2.2.2.2.1.2.1
  cases c1 : xe_c .ge (nI num) (Int32.ofInt 1) with
  | true =>
    have z1 : num ≥ 1 := nq_get (a := num) (b := 1) (by omega) (by omega) c1
    refine xq_m 14 [0, 1, 2] [(0, .ref 3), (1, .int (nI st)), (2, .int (nI num))] [.int (nI st), .ref 3] h [true] 7 hq rfl ⟨c1, trivial⟩ (fun hq => ?_)
    refine xq_run hq rfl rfl (xq_and (co_q (st := st) (by omega) c0 hq) (co_n (st := st) (by omega) c0 hq)) ?_
    rintro v2 h2 ⟨⟨g2, l2, q2⟩, n2⟩
    have hq := fx_q g2 hq
    by_cases w2_0 : 120 ≤ o
    · obtain ⟨rfl, f2, y2, z2, e62, e2⟩ := q2 4 (st) (by unfold kC; rw [if_pos w2_0])
      refine xq_n 39 [] [] [.int (Int32.ofInt 0)] h2 [true] 4 hq rfl ⟨(by decide), trivial⟩ (fun hq => ?_)
      exact xq_ret rfl rfl rfl ⟨fx_t (fx_0) (g2), Or.inr ⟨rfl, _, f2, by omega, by omega⟩⟩
    · skip
      obtain ⟨rfl, c2⟩ := l2 (p) (o + 1) (d) (by unfold kC; rw [if_neg w2_0])
      have kb2 := tkk_lt (T := T) (n := n) (p := p) hT
      have s62 := tks_le (T := T) (n := n) (p := p)
      refine xq_n 23 [0, 1, 2] [(0, .ref 3), (1, .int (nI st)), (2, .int (nI num))] [.float 6, .ref 3] h2 [false] 5 hq rfl ⟨(by decide), trivial⟩ (fun hq => ?_)
      refine xq_run hq rfl rfl (xq_and (tw4_q c2 hq) (tw4_n c2 hq)) ?_
      rintro v3 h3 ⟨⟨g3, l3, q3⟩, n3⟩
      have hq := fx_q g3 hq
      by_cases w3_0 : ky T n p 4 = false
      · obtain ⟨rfl, f3, y3, z3, e63, e3⟩ := q3 1 (tks T n p) (by unfold kW; rw [if_pos w3_0])
        refine xq_n 39 [] [] [.int (Int32.ofInt 0)] h3 [true] 4 hq rfl ⟨(by decide), trivial⟩ (fun hq => ?_)
        exact xq_ret rfl rfl rfl ⟨fx_t (fx_t (fx_0) (g2)) (g3), Or.inr ⟨rfl, _, f3, by omega, by omega⟩⟩
      · skip
        have w3_0t : ky T n p 4 = true := eq_true_of_ne_false w3_0
        have dw3_0 := of_decide_eq_true w3_0t
        obtain ⟨rfl, c3⟩ := l3 (tke T n p) ((o + 1)) (d) (by unfold kW; rw [if_neg w3_0])
        have kb3 := tkk_lt (T := T) (n := n) (p := tke T n p) hT
        have s63 := tks_le (T := T) (n := n) (p := tke T n p)
        refine xq_n 32 [0, 1, 2] [(0, .ref 3), (1, .int (nI st)), (2, .int (nI num))] [.int 91, .ref 3] h3 [false] 5 hq rfl ⟨(by decide), trivial⟩ (fun hq => ?_)
        refine xq_run hq rfl rfl (xq_and (to_q (c := 91) (by decide) (by decide) c3 hq) (to_n (c := 91) (by decide) (by decide) c3 hq)) ?_
        rintro v4 h4 ⟨⟨g4, l4, q4⟩, n4⟩
        have hq := fx_q g4 hq
        by_cases w4_0 : tkk T n (tke T n p) ≠ 91
        · obtain ⟨rfl, f4, y4, z4, e64, e4⟩ := q4 1 (tks T n (tke T n p)) (by unfold kO; rw [if_pos w4_0])
          refine xq_n 39 [] [] [.int (Int32.ofInt 0)] h4 [false] 4 hq rfl ⟨(by decide), trivial⟩ (fun hq => ?_)
          exact xq_ret rfl rfl rfl ⟨fx_t (fx_t (fx_t (fx_0) (g2)) (g3)) (g4), Or.inr ⟨rfl, _, f4, by omega, by omega⟩⟩
        · skip
          by_cases w4_1 : 12 ≤ d
          · obtain ⟨rfl, f4, y4, z4, e64, e4⟩ := q4 4 (tks T n (tke T n p)) (by unfold kO; rw [if_neg w4_0, if_pos w4_1])
            refine xq_n 39 [] [] [.int (Int32.ofInt 0)] h4 [false] 4 hq rfl ⟨(by decide), trivial⟩ (fun hq => ?_)
            exact xq_ret rfl rfl rfl ⟨fx_t (fx_t (fx_t (fx_0) (g2)) (g3)) (g4), Or.inr ⟨rfl, _, f4, by omega, by omega⟩⟩
          · skip
            obtain ⟨rfl, c4⟩ := l4 (tke T n (tke T n p)) ((o + 1)) (d + 1) (by unfold kO; rw [if_neg w4_0, if_neg w4_1])
            have kb4 := tkk_lt (T := T) (n := n) (p := tke T n (tke T n p)) hT
            have s64 := tks_le (T := T) (n := n) (p := tke T n (tke T n p))
            refine xq_n 46 [0, 1, 2] [(0, .ref 3), (1, .int (nI st)), (2, .int (nI num))] [.int (Int32.ofInt 0), .int (Int32.ofInt 4), .ref 4] h4 [true] 7 hq rfl ⟨(by decide), trivial⟩ (fun hq => ?_)
            refine xq_run hq rfl rfl (pad_q (c := 4) (y := Int32.ofInt 0) (ptx_n (ptx_n (ptx_n (pt) n2) n3) n4) (by first | omega | (simp only [List.length_append, List.length_cons, List.length_nil]; omega)) hq) ?_
            rintro v5 h5 ⟨rfl, g5, x5⟩
            have hq := fx_q g5 hq
            refine xq_n 50 [0, 1, 2] [(0, .ref 3), (1, .int (nI st)), (2, .int (nI num))] [.ref 3] h5 [] 3 hq rfl trivial (fun hq => ?_)
            refine xq_run hq rfl rfl (ii _ _ _ _ (P ++ [(4, Int32.ofInt 0)]) ⟨ct_f (S := cS) (L := fN) (c4.1) (fx_w g5 (fun _ _ => aS_c) (fun _ _ z => z)) rfl (fun _ => rfl), tok_f (c4.2.1) g5 (fun _ => rfl), (fx_i g5 rfl).trans (c4.2.2.1), (fx_i g5 rfl).trans (c4.2.2.2.1), c0.2.2.2.2.1, (fx_i g5 rfl).trans (c4.2.2.2.2.2.1), by omega, (fx_i g5 rfl).trans (c4.2.2.2.2.2.2.2.1), by omega, cn_f (S := cS) (L := fN) (c4.2.2.2.2.2.2.2.2.2.1) (fx_w g5 (fun _ _ => aS_c) (fun _ _ z => z)) rfl (fun _ => rfl) (fun _ => rfl), (fx_i g5 rfl).trans (c4.2.2.2.2.2.2.2.2.2.2)⟩ (x5) (by first | omega | (simp only [List.length_append, List.length_cons, List.length_nil]; omega)) (by omega) (by omega) hq) ?_
            rintro v6 h6 ⟨g6, ⟨rfl, pq6, oq6, cq6, c6, lt6, le6, x6, ln6, G6⟩ | ⟨rfl, kq6, f6, ka6, kz6⟩⟩
            · have hq := fx_q g6 hq
              have x6 : ptx h6 (P ++ ([(4, Int32.ofInt 0)] ++ cq6)) := by simpa only [List.append_assoc] using x6
              have kb6 := tkk_lt (T := T) (n := n) (p := pq6) hT
              have s66 := tks_le (T := T) (n := n) (p := pq6)
              refine xq_n 57 [0, 2, 3, 4] [(0, .ref 3), (2, .int (nI num)), (3, .int (Int32.ofInt 1)), (4, .int (Int32.ofInt 0))] [] h6 [] 5 hq rfl trivial (fun hq => ?_)
              exact qu_lpp (p := p) (o := o) (d := d) (st := st) ii (by omega) (by omega) n9 pl (by omega) (by assumption) (by omega) f (Nat.le_refl _) _ 0 pq6 oq6 ([(4, Int32.ofInt 0)] ++ cq6) c6 (fx_t (fx_t (fx_t (fx_t (fx_t (fx_0) (g2)) (g3)) (g4)) (fx_w g5 (fun _ _ => aS_c) (fun _ _ z => z))) (g6)) (x6) (by omega) (by omega) (by first | omega | (simp only [List.length_append, List.length_cons, List.length_nil]; omega)) (VS_1 (by omega) G6) hq
            · have hq := fx_q g6 hq
              refine xq_n 57 [0, 2, 3, 4] [(0, .ref 3), (2, .int (nI num)), (3, .int (Int32.ofInt 0)), (4, .int (Int32.ofInt 0))] [] h6 [] 5 hq rfl trivial (fun hq => ?_)
              refine xq_mono (qz_q hq) (fun v h' e => ?_)
              obtain ⟨rfl, gz⟩ := e
              exact ⟨fx_t (fx_t (fx_t (fx_t (fx_t (fx_t (fx_0) (g2)) (g3)) (g4)) (fx_w g5 (fun _ _ => aS_c) (fun _ _ z => z))) (g6)) (fx_w gz (fun _ _ => zS_c) (fun _ _ z => z)), Or.inr ⟨rfl, _, (fx_i gz rfl).trans (f6), by omega, by omega⟩⟩
  | false =>
    have z1 : num < 1 := nq_gef (a := num) (b := 1) (by omega) (by omega) c1
    refine xq_m 8 [0, 1, 2] [(0, .ref 3), (1, .int (nI st)), (2, .int (nI num))] [.int (nI st), .int (Int32.ofInt 2), .ref 3] h [false] 8 hq rfl ⟨c1, trivial⟩ (fun hq => ?_)
    refine xq_run hq rfl rfl (fail_q (k := 2) (pl := st) hq) ?_
    rintro v7 h7 ⟨rfl, g7, f7, l7⟩
    have hq := fx_q g7 hq
    exact xq_ret rfl rfl rfl ⟨fx_t (fx_0) (fx_w g7 (fun _ _ => fS_c) (fun _ _ z => z)), Or.inr ⟨rfl, _, f7, by omega, by omega⟩⟩
/-- ALL OF THEM -/
theorem rp_all : ∀ f, pOne T n mem nn NM f ∧ pAll T n mem nn NM f ∧ pRule T n mem nn NM f ∧ pItem T n mem nn NM f ∧ pQuota T n mem nn NM f := by
  intro f
  induction f with
  | zero => exact ⟨fun _ _ _ _ _ _ _ _ _ _ _ => xq_0, fun _ _ _ _ _ _ _ _ _ _ _ => xq_0, fun _ _ _ _ _ _ _ _ _ _ _ => xq_0, fun _ _ _ _ _ _ _ _ _ _ _ => xq_0, fun _ _ _ _ _ _ _ _ _ _ _ _ _ _ => xq_0⟩
  | succ f ih => exact ⟨one_p ih.2.2.2.2 ih.2.2.1, all_p ih.1, rul_p ih.2.1, item_p ih.1 ih.2.2.2.2, quo_p ih.2.2.2.1⟩
end XPS2
end
section
section XPT2
variable {T : Nat → Nat} {n mem nn : Nat} {NM : Nat → Nat × Nat} {NW : Nat → Nat}
theorem VR_c {d p o p' o' : Nat} {c : cdL} (h : VR T n mem nn NW d p o p' o' c) (t : Nat) (fs : List Nat) (ht : t ≠ 2) (hf : fs.length = d) : Rc T n mem nn NW (1, p, o, t :: fs) (0, p', o', t :: fs) := by
  obtain ⟨y, -, h2⟩ := h 0 (fun _ => false) (nI 0) (by decide) ⟨0, Nat.two_pow_pos nn, rfl, fun k _ => Nat.zero_testBit k⟩
  obtain ⟨_, _, _, _, r⟩ := h2 t fs 0 1 0 [] false ht hf
  exact Rv_c r
theorem VR_top {p o p' o' : Nat} {c : cdL} (h : VR T n mem nn NW 0 p o p' o' c) (k2 : ky T n p' 2 = false) (k3 : ky T n p' 3 = false) (k59 : tkk T n p' = 59) {sv : Nat} {NV : Nat → Bool} {nm : Int32} (hs : sv < 4096) (hn : nmo nn NV nm) : ∃ y, pv (nI sv) nm 27 c (bl y) ∧ ∀ one, Rv T n nn NW sv NV mem (1, p, o, [0]) ([vR], one) (0, tke T n p', o', []) ([], y) := by
  obtain ⟨y, h1, h2⟩ := h sv NV nm hs hn
  refine ⟨y, h1, fun one => ?_⟩
  obtain ⟨ov, a, one', e, r⟩ := h2 0 [] 0 1 0 [] one (by decide) rfl
  refine Rv_t r ?_
  have es : stp T n mem nn NW (0, p', o', [0]) = .inl (0, tke T n p', o', []) := by
    rw [enE]
    unfold en
    rw [if_neg (by intro z; cases z), if_neg (by rw [k2]; decide), if_neg (by rw [k3]; decide), if_pos (show [0].head? = some 0 from rfl), if_pos k59]
  have r1 := Rv_1 (sv := sv) (NV := NV) (x := ([(ov, a, (0 : Int32), (1 : Int32), (0 : Int32))], one')) es
  rw [vdt0, ven_c] at r1
  rw [if_neg (by intro z; cases z), if_neg (by rw [k2]; decide), if_neg (by rw [k3]; decide), e] at r1
  exact r1
/-- A TEXT'S VALUE for one set -/
def Tv (T : Nat → Nat) (n mem sv : Nat) : Nat → Nat → Nat → Nat → (Nat → Nat) → (Nat → Bool) → Bool → Prop
  | 0, p, o, nn, NW, NV, y => ky T n p 0 = false ∧ ky T n p 1 = true ∧ ∃ p' o', rkk T n p' = 0 ∧ ∀ one, Rv T n nn NW sv NV mem (1, tke T n p, o, [0]) ([vR], one) (0, p', o', []) ([], y)
  | j + 1, p, o, nn, NW, NV, y => ky T n p 0 = true ∧ nmt T n (tke T n p) = true ∧ hasn nn NW (tkw T n (tke T n p)) = false ∧ nn < 16 ∧ tkk T n (tke T n (tke T n p)) = 58 ∧ ∃ p' o' y1, (∀ one, Rv T n nn NW sv NV mem (1, tke T n (tke T n (tke T n p)), o, [0]) ([vR], one) (0, p', o', []) ([], y1)) ∧ Tv T n mem sv j p' o' (nn + 1) (upN NW nn (tkw T n (tke T n p))) (upB NV nn y1) y
/-- what was read so far, and what the program makes of it -/
def FW (T : Nat → Nat) (n mem : Nat) (P : cdL) (p o nn : Nat) (NW : Nat → Nat) : Prop := ∀ sv, sv < 4096 → ∃ NV nm, nmo nn NV nm ∧ px (nI sv) P ([], nI 0) = some ([], nm) ∧ ∀ y j, Tv T n mem sv j p o nn NW NV y → Tv T n mem sv (nn + j) 0 0 0 (nmW T (fun _ => (0, 0))) (fun _ => false) y
theorem FW_s {p o p' o' : Nat} {P c : cdL} (h : FW T n mem P p o nn NW) (kb : ky T n p 0 = true) (kn : nmt T n (tke T n p) = true) (hn' : hasn nn NW (tkw T n (tke T n p)) = false) (n16 : nn < 16) (k58 : tkk T n (tke T n (tke T n p)) = 58) (hv : VR T n mem nn NW 0 (tke T n (tke T n (tke T n p))) o p' o' c) (k2 : ky T n p' 2 = false) (k3 : ky T n p' 3 = false) (k59 : tkk T n p' = 59) : FW T n mem (P ++ (c ++ [(7, nI nn)])) (tke T n p') o' (nn + 1) (upN NW nn (tkw T n (tke T n p))) := by
  intro sv hs
  obtain ⟨NV, nm, h1, h2, h3⟩ := h sv hs
  obtain ⟨y, h4, h5⟩ := VR_top hv k2 k3 k59 hs h1
  refine ⟨upB NV nn y, nm ||| (bl y <<< (nI nn &&& 31)), nmo_up h1 n16, ?_, fun z j ht => ?_⟩
  · rw [px_app, h2]
    show px (nI sv) (c ++ [(7, nI nn)]) ([], nm) = _
    rw [px_app, h4 [] (by decide)]
    rfl
  · rw [show nn + 1 + j = nn + (j + 1) by omega]
    exact h3 z (j + 1) ⟨kb, kn, hn', n16, k58, _, _, y, h5, ht⟩
/-- what a good text leaves in the class -/
def tx_G (T : Nat → Nat) (n mem : Nat) (h' : xh_H) : Prop := ∃ P, ptx h' P ∧ P.length < 400 ∧ ∀ sv, sv < 4096 → ∃ y j nm, px (nI sv) P ([], nI 0) = some ([bl y], nm) ∧ Tv T n mem sv j 0 0 0 (nmW T (fun _ => (0, 0))) (fun _ => false) y
theorem FW_e {p o p' o' : Nat} {P c : cdL} {h' : xh_H} (h : FW T n mem P p o nn NW) (kb : ky T n p 0 = false) (kc : ky T n p 1 = true) (hv : VR T n mem nn NW 0 (tke T n p) o p' o' c) (k2 : ky T n p' 2 = false) (k3 : ky T n p' 3 = false) (k59 : tkk T n p' = 59) (ke : rkk T n (tke T n p') = 0) (pt : ptx h' (P ++ c)) (pl : (P ++ c).length < 400) : tx_G T n mem h' := by
  refine ⟨_, pt, pl, fun sv hs => ?_⟩
  obtain ⟨NV, nm, h1, h2, h3⟩ := h sv hs
  obtain ⟨y, h4, h5⟩ := VR_top hv k2 k3 k59 hs h1
  refine ⟨y, nn + 0, nm, ?_, h3 y 0 ⟨kb, kc, _, _, ke, h5⟩⟩
  rw [px_app, h2]
  exact h4 [] (by decide)
def bc_P (h : xh_H) (T : Nat → Nat) (n mem nn : Nat) (NM : Nat → Nat × Nat) (P : cdL) (p o : Nat) (v : Option Value) (h' : xh_H) : Prop := fx cT fN h h' ∧ ((v = some (.int 1) ∧ ∃ p' o' c, o < o' ∧ o' ≤ 120 ∧ cr h' T n mem (nn + 1) (upM NM nn (tks T n (tke T n p), tke T n (tke T n p))) (tke T n p') o' 0 ∧ ptx h' (P ++ (c ++ [(7, nI nn)])) ∧ c.length + 2 ≤ 3 * (o' - o) ∧ nmt T n (tke T n p) = true ∧ hasn nn (nmW T NM) (tkw T n (tke T n p)) = false ∧ nn < 16 ∧ tkk T n (tke T n (tke T n p)) = 58 ∧ VR T n mem nn (nmW T NM) 0 (tke T n (tke T n (tke T n p))) o p' o' c ∧ ky T n p' 2 = false ∧ ky T n p' 3 = false ∧ tkk T n p' = 59) ∨ (v = some (.int 0) ∧ ∃ k, xg 0 h'.2.1 3 8 = nI k ∧ 1 ≤ k ∧ k ≤ 4))
set_option maxRecDepth 100000 in
set_option maxHeartbeats 4000000 in
theorem bd_endp {f : Nat} {xa xb : Int32} {P : cdL} {h : xh_H} (pt : ptx h P) (l4 : P.length < 400) (e7 : xg 0 h.2.1 3 7 = nI nn) (n15 : nn < 16) (hq : a_rq a_tb h) : xq f xi_X4_readBody xmi_X4_readBody 57 [(0, .ref 3), (1, .int xa), (2, .int xb)] [] h (fun v h' => ptx h' (P ++ [(7, nI nn)])) := by
  refine xq_n 67 [0, 1, 2] [(0, .ref 3), (1, .int xa), (2, .int xb)] [.int (xg 0 h.2.1 3 7), .int 7, .ref 4] h [] 7 hq rfl trivial (fun hq => ?_)
  rw [show (xg 0 h.2.1 3 7) = (nI nn) from e7]
  refine xq_run hq rfl rfl (pad_q (c := 7) (y := (nI nn)) (pt) (by first | omega | (simp only [List.length_append, List.length_cons, List.length_nil]; omega)) hq) ?_
  rintro v1 h1 ⟨rfl, g1, x1⟩
  have hq := fx_q g1 hq
  cases c2 : xe_c .ge (nI nn) 16 with
  | true =>
    have z2 : nn ≥ 16 := nq_get (a := nn) (b := 16) (by omega) (by omega) c2
    omega
  | false =>
    have z2 : nn < 16 := nq_gef (a := nn) (b := 16) (by omega) (by omega) c2
    refine xq_n 110 [] [] [.int (Int32.ofInt 1)] (xh_ui (xh_ui (xh_ui h1 9 ((xg 0 h1.2.1 3 7).toNatClampNeg) xa) 10 ((xg 0 (xh_ui h1 9 ((xg 0 h1.2.1 3 7).toNatClampNeg) xa).2.1 3 7).toNatClampNeg) xb) 3 7 ((xg 0 (xh_ui (xh_ui h1 9 ((xg 0 h1.2.1 3 7).toNatClampNeg) xa) 10 ((xg 0 (xh_ui h1 9 ((xg 0 h1.2.1 3 7).toNatClampNeg) xa).2.1 3 7).toNatClampNeg) xb).2.1 3 7) + (Int32.ofInt 1))) [false] 25 hq rfl ⟨(show xe_c .ge (xg 0 h1.2.1 3 7) 16 = false by rw [show (xg 0 h1.2.1 3 7) = (nI nn) from (fx_i g1 rfl).trans (e7)]; exact c2), trivial⟩ (fun _ => ?_)
    rw [show (xg 0 (xh_ui (xh_ui h1 9 ((xg 0 h1.2.1 3 7).toNatClampNeg) xa) 10 ((xg 0 (xh_ui h1 9 ((xg 0 h1.2.1 3 7).toNatClampNeg) xa).2.1 3 7).toNatClampNeg) xb).2.1 3 7) = (nI nn) from (gx_o (by decide)).trans ((gx_o (by decide)).trans ((fx_i g1 rfl).trans (e7)))]
    rw [show (xg 0 (xh_ui h1 9 ((xg 0 h1.2.1 3 7).toNatClampNeg) xa).2.1 3 7) = (nI nn) from (gx_o (by decide)).trans ((fx_i g1 rfl).trans (e7))]
    rw [show (xg 0 h1.2.1 3 7) = (nI nn) from (fx_i g1 rfl).trans (e7)]
    rw [show ((nI nn).toNatClampNeg) = nn from nI_clamp (by omega)]
    rw [show ((nI nn) + (Int32.ofInt 1)) = nI (nn + 1) from nI_1 _]
    have hq : a_rq a_tb (xh_ui (xh_ui (xh_ui h1 9 nn xa) 10 nn xb) 3 7 (nI (nn + 1))) := a_rq_ui (a_rq_ui (a_rq_ui hq))
    exact xq_ret rfl rfl rfl (ptx_f (S := fun c k => Nat.beq c 3) (L := fN) (ptx_f (S := fun c k => Nat.beq c 10) (L := fN) (ptx_f (S := fun c k => Nat.beq c 9) (L := fN) (x1) (fx_ui fx_0 rfl) rfl (fun _ => rfl) (fun _ => rfl)) (fx_ui fx_0 rfl) rfl (fun _ => rfl) (fun _ => rfl)) (fx_ui fx_0 rfl) rfl (fun _ => rfl) (fun _ => rfl))
theorem Rc_end {s : aSt} {p1 o1 p2 o2 : Nat} (a : Rc T n mem nn NW s (0, p1, o1, [])) (b : Rc T n mem nn NW s (0, p2, o2, [])) : p1 = p2 ∧ o1 = o2 := by
  obtain ⟨k, hk⟩ := a
  obtain ⟨j, hj⟩ := b
  have e1 := (its_add (j := j) hk).trans its_d
  have e2 := (its_add (j := k) hj).trans its_d
  rw [Nat.add_comm] at e2
  rw [e1] at e2
  cases e2
  exact ⟨rfl, rfl⟩
theorem Fl_end {s : aSt} {p1 o1 : Nat} {e : Nat × Nat} (a : Rc T n mem nn NW s (0, p1, o1, [])) (b : Fl T n mem nn NW s e) : False := by
  obtain ⟨k, hk⟩ := a
  obtain ⟨j, hj⟩ := b
  have e1 := (its_add (j := j) hk).trans its_d
  have e2 : its T n mem nn NW (j + k) s = .inr e := by
    clear e1 hk
    induction j generalizing s with
    | zero => cases hj
    | succ j ih =>
      rw [Nat.succ_add]
      have u : ∀ m, its T n mem nn NW (m + 1) s = (match stp T n mem nn NW s with
        | .inl s' => its T n mem nn NW m s'
        | .inr e => .inr e) := fun _ => rfl
      have hj : its T n mem nn NW (j + 1) s = .inr e := hj
      rw [u] at hj
      rw [show (j + k).succ = (j + k) + 1 from rfl, u]
      cases hs : stp T n mem nn NW s with
      | inl s' => rw [hs] at hj; exact ih hj
      | inr e' => rw [hs] at hj; exact hj
  rw [Nat.add_comm, e1] at e2
  cases e2
theorem Bdy_u {p o p1 o1 p2 o2 w1 w2 : Nat} (a : Bdy T n mem nn NW p o (.inl (p1, o1, w1))) (b : Bdy T n mem nn NW p o (.inl (p2, o2, w2))) : p1 = p2 ∧ o1 = o2 := by
  unfold Bdy at a b
  by_cases c1 : nmt T n (tke T n p) = false
  · rw [if_pos c1] at a; cases a
  rw [if_neg c1] at a b
  by_cases c2 : hasn nn NW (tkw T n (tke T n p)) = true
  · rw [if_pos c2] at a; cases a
  rw [if_neg c2] at a b
  by_cases c3 : nn = 16
  · rw [if_pos c3] at a; cases a
  rw [if_neg c3] at a b
  by_cases c4 : tkk T n (tke T n (tke T n p)) ≠ 58
  · rw [if_pos c4] at a; cases a
  rw [if_neg c4] at a b
  obtain ⟨q1, r1, e1⟩ := a
  obtain ⟨q2, r2, e2⟩ := b
  rcases r1 with ⟨_, _, rfl, _⟩ | ⟨x1, y1, rfl, r1⟩
  · cases e1
  rcases r2 with ⟨_, _, rfl, _⟩ | ⟨x2, y2, rfl, r2⟩
  · cases e2
  cases e1
  cases e2
  exact Rc_end r1 r2
theorem Bdy_n {p o p1 o1 w1 : Nat} {e : Nat × Nat} (a : Bdy T n mem nn NW p o (.inl (p1, o1, w1))) : ¬ Bdy T n mem nn NW p o (.inr e) := by
  intro b
  unfold Bdy at a b
  by_cases c1 : nmt T n (tke T n p) = false
  · rw [if_pos c1] at a; cases a
  rw [if_neg c1] at a b
  by_cases c2 : hasn nn NW (tkw T n (tke T n p)) = true
  · rw [if_pos c2] at a; cases a
  rw [if_neg c2] at a b
  by_cases c3 : nn = 16
  · rw [if_pos c3] at a; cases a
  rw [if_neg c3] at a b
  by_cases c4 : tkk T n (tke T n (tke T n p)) ≠ 58
  · rw [if_pos c4] at a; cases a
  rw [if_neg c4] at a b
  obtain ⟨q1, r1, e1⟩ := a
  obtain ⟨q2, r2, e2⟩ := b
  rcases r1 with ⟨_, _, rfl, _⟩ | ⟨x1, y1, rfl, r1⟩
  · cases e1
  rcases r2 with ⟨x2, y2, rfl, r2⟩ | ⟨_, _, rfl, _⟩
  · exact Fl_end r1 r2
  · cases e2
set_option maxRecDepth 100000 in
set_option maxHeartbeats 4000000 in
theorem bd_p {f p o : Nat} {P : cdL} {h : xh_H} (c0 : cr h T n mem nn NM p o 0) (pt : ptx h P) (pl : P.length ≤ 3 * o + nn) (o6 : o ≤ 120) (nz : tkk T n p ≠ 0) (hq : a_rq a_tb h) : xq f xi_X4_readBody xmi_X4_readBody 0 [(0, .ref 3)] [] h (bc_P h T n mem nn NM P p o) := by
  have hT : ∀ k, k < n → T k < 256 := fun k hk' => (c0.1.2.2 k hk').1
  have kb := tkk_lt (T := T) (n := n) (p := p) hT
  have n6 := c0.1.2.1
  have s6 := tks_le (T := T) (n := n) (p := p)
  have mm := c0.2.2.2.2.1
  have n16 := c0.2.2.2.2.2.2.2.2.2.1.2.1
  refine xq_n 4 [0] [(0, .ref 3)] [.ref 8] h [] 4 hq rfl trivial (fun hq => ?_)
  have nz1 : tkk T n p ≠ 0 := by omega
  have le1 := tke_le nz1
  refine xq_run hq rfl rfl (adv_q hq hT (c0.1) (c0.2.2.1) ((c0.2.1.2.2.1 (by omega)).1) (by omega)) ?_
  rintro v1 h1 ⟨rfl, g1, t1⟩
  have hq := fx_q g1 hq
  have kb1 := tkk_lt (T := T) (n := n) (p := tke T n p) hT
  have s61 := tks_le (T := T) (n := n) (p := tke T n p)
  refine xq_n 24 [0, 1, 2] [(0, .ref 3), (1, .int (xg 0 h1.2.1 8 4)), (2, .int (xg 0 h1.2.1 8 5))] [.ref 3] h1 [] 11 hq rfl trivial (fun hq => ?_)
  rw [show (xg 0 h1.2.1 8 4) = (nI (tks T n (tke T n p))) from t1.2.1]
  refine xq_run hq rfl rfl (xq_and (tnn_q ⟨ct_f (S := cS) (L := fN) (c0.1) (fx_w g1 (fun _ _ => sS_c) (fun _ _ z => z)) rfl (fun _ => rfl), t1, (fx_i g1 rfl).trans (c0.2.2.1), (fx_i g1 rfl).trans (c0.2.2.2.1), c0.2.2.2.2.1, (fx_i g1 rfl).trans (c0.2.2.2.2.2.1), by omega, (fx_i g1 rfl).trans (c0.2.2.2.2.2.2.2.1), by omega, cn_f (S := cS) (L := fN) (c0.2.2.2.2.2.2.2.2.2.1) (fx_w g1 (fun _ _ => sS_c) (fun _ _ z => z)) rfl (fun _ => rfl) (fun _ => rfl), (fx_i g1 rfl).trans (c0.2.2.2.2.2.2.2.2.2.2)⟩ hq) (tnn_n ⟨ct_f (S := cS) (L := fN) (c0.1) (fx_w g1 (fun _ _ => sS_c) (fun _ _ z => z)) rfl (fun _ => rfl), t1, (fx_i g1 rfl).trans (c0.2.2.1), (fx_i g1 rfl).trans (c0.2.2.2.1), c0.2.2.2.2.1, (fx_i g1 rfl).trans (c0.2.2.2.2.2.1), by omega, (fx_i g1 rfl).trans (c0.2.2.2.2.2.2.2.1), by omega, cn_f (S := cS) (L := fN) (c0.2.2.2.2.2.2.2.2.2.1) (fx_w g1 (fun _ _ => sS_c) (fun _ _ z => z)) rfl (fun _ => rfl) (fun _ => rfl), (fx_i g1 rfl).trans (c0.2.2.2.2.2.2.2.2.2.2)⟩ hq)) ?_
  rintro v2 h2 ⟨⟨g2, l2, q2⟩, n2⟩
  have hq := fx_q g2 hq
  by_cases w2_0 : nmt T n (tke T n p) = false
  · obtain ⟨rfl, f2, y2, z2, e62, e2⟩ := q2 1 (tks T n (tke T n p)) (by unfold kT; rw [if_pos w2_0])
    refine xq_n 56 [] [] [.int (Int32.ofInt 0)] h2 [true] 4 hq rfl ⟨(by decide), trivial⟩ (fun hq => ?_)
    exact xq_ret rfl rfl rfl ⟨fx_w (fx_t (fx_t (fx_0) (fx_w g1 (fun _ _ => sS_c) (fun _ _ z => z))) (g2)) (fun _ _ => cS_t) (fun _ _ z => z), Or.inr ⟨rfl, _, f2, by omega, by omega⟩⟩
  · skip
    have w2_0t : nmt T n (tke T n p) = true := eq_true_of_ne_false w2_0
    have dw2_0 := of_decide_eq_true w2_0t
    by_cases w2_1 : hasn nn (nmW T NM) (tkw T n (tke T n p)) = true
    · obtain ⟨rfl, f2, y2, z2, e62, e2⟩ := q2 3 (tks T n (tke T n p)) (by unfold kT; rw [if_neg w2_0, if_pos w2_1])
      refine xq_n 56 [] [] [.int (Int32.ofInt 0)] h2 [true] 4 hq rfl ⟨(by decide), trivial⟩ (fun hq => ?_)
      exact xq_ret rfl rfl rfl ⟨fx_w (fx_t (fx_t (fx_0) (fx_w g1 (fun _ _ => sS_c) (fun _ _ z => z))) (g2)) (fun _ _ => cS_t) (fun _ _ z => z), Or.inr ⟨rfl, _, f2, by omega, by omega⟩⟩
    · skip
      by_cases w2_2 : 16 ≤ nn
      · obtain ⟨rfl, f2, y2, z2, e62, e2⟩ := q2 4 (tks T n (tke T n p)) (by unfold kT; rw [if_neg w2_0, if_neg w2_1, if_pos w2_2])
        refine xq_n 56 [] [] [.int (Int32.ofInt 0)] h2 [true] 4 hq rfl ⟨(by decide), trivial⟩ (fun hq => ?_)
        exact xq_ret rfl rfl rfl ⟨fx_w (fx_t (fx_t (fx_0) (fx_w g1 (fun _ _ => sS_c) (fun _ _ z => z))) (g2)) (fun _ _ => cS_t) (fun _ _ z => z), Or.inr ⟨rfl, _, f2, by omega, by omega⟩⟩
      · skip
        obtain ⟨rfl, c2⟩ := l2 (tke T n (tke T n p)) (o) (0) (by unfold kT; rw [if_neg w2_0, if_neg w2_1, if_neg w2_2])
        have kb2 := tkk_lt (T := T) (n := n) (p := tke T n (tke T n p)) hT
        have s62 := tks_le (T := T) (n := n) (p := tke T n (tke T n p))
        refine xq_n 33 [0, 1, 2] [(0, .ref 3), (1, .int (nI (tks T n (tke T n p)))), (2, .int (xg 0 h1.2.1 8 5))] [.int 58, .ref 3] h2 [false] 5 hq rfl ⟨(by decide), trivial⟩ (fun hq => ?_)
        refine xq_run hq rfl rfl (xq_and (ts_q (c := 58) (by decide) (by decide) c2 hq) (ts_n (c := 58) (by decide) (by decide) c2 hq)) ?_
        rintro v3 h3 ⟨⟨g3, l3, q3⟩, n3⟩
        have hq := fx_q g3 hq
        by_cases w3_0 : tkk T n (tke T n (tke T n p)) ≠ 58
        · obtain ⟨rfl, f3, y3, z3, e63, e3⟩ := q3 1 (tks T n (tke T n (tke T n p))) (by unfold kS; rw [if_pos w3_0])
          refine xq_n 56 [] [] [.int (Int32.ofInt 0)] h3 [true] 4 hq rfl ⟨(by decide), trivial⟩ (fun hq => ?_)
          exact xq_ret rfl rfl rfl ⟨fx_w (fx_t (fx_t (fx_t (fx_0) (fx_w g1 (fun _ _ => sS_c) (fun _ _ z => z))) (g2)) (g3)) (fun _ _ => cS_t) (fun _ _ z => z), Or.inr ⟨rfl, _, f3, by omega, by omega⟩⟩
        · skip
          obtain ⟨rfl, c3⟩ := l3 (tke T n (tke T n (tke T n p))) (o) (0) (by unfold kS; rw [if_neg w3_0])
          have kb3 := tkk_lt (T := T) (n := n) (p := tke T n (tke T n (tke T n p))) hT
          have s63 := tks_le (T := T) (n := n) (p := tke T n (tke T n (tke T n p)))
          refine xq_n 40 [0, 1, 2] [(0, .ref 3), (1, .int (nI (tks T n (tke T n p)))), (2, .int (xg 0 h1.2.1 8 5))] [.ref 3] h3 [false] 4 hq rfl ⟨(by decide), trivial⟩ (fun hq => ?_)
          refine xq_run hq rfl rfl ((rp_all f).2.2.1 _ _ _ _ (P) c3 (ptx_n (ptx_n (ptx_f (pt) g1 rfl (fun _ => rfl) (fun _ => rfl)) n2) n3) (by omega) (by omega) (by omega) hq) ?_
          rintro v4 h4 ⟨g4, ⟨rfl, pq4, oq4, cq4, c4, lt4, le4, x4, ln4, G4⟩ | ⟨rfl, kq4, f4, ka4, kz4⟩⟩
          · have hq := fx_q g4 hq
            have kb4 := tkk_lt (T := T) (n := n) (p := pq4) hT
            have s64 := tks_le (T := T) (n := n) (p := pq4)
            refine xq_n 49 [0, 1, 2] [(0, .ref 3), (1, .int (nI (tks T n (tke T n p)))), (2, .int (xg 0 h1.2.1 8 5))] [.int 59, .ref 3] h4 [false] 5 hq rfl ⟨(by decide), trivial⟩ (fun hq => ?_)
            refine xq_run hq rfl rfl (xq_and (ts_q (c := 59) (by decide) (by decide) c4 hq) (ts_n (c := 59) (by decide) (by decide) c4 hq)) ?_
            rintro v5 h5 ⟨⟨g5, l5, q5⟩, n5⟩
            have hq := fx_q g5 hq
            by_cases w5_0 : tkk T n pq4 ≠ 59
            · obtain ⟨rfl, f5, y5, z5, e65, e5⟩ := q5 1 (tks T n pq4) (by unfold kS; rw [if_pos w5_0])
              refine xq_n 56 [] [] [.int (Int32.ofInt 0)] h5 [false] 4 hq rfl ⟨(by decide), trivial⟩ (fun hq => ?_)
              exact xq_ret rfl rfl rfl ⟨fx_w (fx_t (fx_t (fx_t (fx_t (fx_t (fx_0) (fx_w g1 (fun _ _ => sS_c) (fun _ _ z => z))) (g2)) (g3)) (g4)) (g5)) (fun _ _ => cS_t) (fun _ _ z => z), Or.inr ⟨rfl, _, f5, by omega, by omega⟩⟩
            · skip
              obtain ⟨rfl, c5⟩ := l5 (tke T n pq4) (oq4) (0) (by unfold kS; rw [if_neg w5_0])
              have kb5 := tkk_lt (T := T) (n := n) (p := tke T n pq4) hT
              have s65 := tks_le (T := T) (n := n) (p := tke T n pq4)
              refine xq_n 57 [0, 1, 2] [(0, .ref 3), (1, .int (nI (tks T n (tke T n p)))), (2, .int (xg 0 h1.2.1 8 5))] [] h5 [true] 3 hq rfl ⟨(by decide), trivial⟩ (fun hq => ?_)
              have cE : cr h5 T n mem nn NM (tke T n pq4) (oq4) 0 := c5
              have gE : fx cS fN h h5 := fx_t (fx_t (fx_t (fx_t (fx_t (fx_0) (fx_w g1 (fun _ _ => sS_c) (fun _ _ z => z))) (g2)) (g3)) (g4)) (g5)
              have hB : Bdy T n mem nn (nmW T NM) p o (.inl (tke T n pq4, oq4, tkw T n (tke T n p))) := by
                unfold Bdy
                repeat (first | rw [if_pos (by omega)] | rw [if_neg (by omega)] | rw [if_pos w2_0] | rw [if_neg w2_0] | rw [if_neg (by rw [w2_0]; decide)] | rw [if_pos w2_1] | rw [if_neg w2_1] | rw [if_neg (by rw [w2_1]; decide)] | rw [if_pos w2_2] | rw [if_neg w2_2] | rw [if_neg (by rw [w2_2]; decide)] | rw [if_pos w2_0t] | rw [if_neg w2_0t] | rw [if_neg (by rw [w2_0t]; decide)] | rw [if_pos w3_0] | rw [if_neg w3_0] | rw [if_neg (by rw [w3_0]; decide)] | rw [if_pos w5_0] | rw [if_neg w5_0] | rw [if_neg (by rw [w5_0]; decide)])
                exact ⟨.inl (tke T n pq4, oq4), Or.inr ⟨_, _, rfl, Rc_t (VR_c G4.2.2 0 [] (by decide) rfl) (Rc_1 (by rw [enE]; unfold en; rw [if_neg (by intro z; cases z), if_neg (by rw [G4.1]; decide), if_neg (by rw [G4.2.1]; decide), if_pos (show [0].head? = some 0 from rfl), if_pos (by omega)]))⟩, rfl⟩
              rw [show xg 0 h1.2.1 8 5 = nI (tke T n (tke T n p)) from (t1.2.2.1 (by omega)).2]
              refine xq_mono (xq_and (bd_end hq cE gE (by omega) (by omega) (by omega) hB) (bd_endp (ptx_n (x4) n5) (by first | omega | (simp only [List.length_append, List.length_cons, List.length_nil]; omega)) cE.2.2.2.2.2.2.2.2.2.1.1 (by omega) hq)) (fun v h' e => ?_)
              obtain ⟨⟨e1, ⟨e2, n15, pe, oe, o7, ce, he⟩ | ⟨e2, k, pl', f1, f2, he⟩⟩, ex⟩ := e
              · obtain ⟨rfl, rfl⟩ := Bdy_u hB he
                exact ⟨e1, Or.inl ⟨e2, pq4, oq4, cq4, by omega, by omega, ce, by simpa only [List.append_assoc] using ex, ln4, (by assumption), (by first | assumption | exact eq_false_of_ne_true (by assumption)), by omega, by omega, G4.2.2, G4.1, G4.2.1, by omega⟩⟩
              · exact absurd he (Bdy_n hB)
          · have hq := fx_q g4 hq
            refine xq_n 56 [] [] [.int (Int32.ofInt 0)] h4 [true] 4 hq rfl ⟨(by decide), trivial⟩ (fun hq => ?_)
            exact xq_ret rfl rfl rfl ⟨fx_w (fx_t (fx_t (fx_t (fx_t (fx_0) (fx_w g1 (fun _ _ => sS_c) (fun _ _ z => z))) (g2)) (g3)) (g4)) (fun _ _ => cS_t) (fun _ _ z => z), Or.inr ⟨rfl, _, f4, by omega, by omega⟩⟩
def rt_P (h0 : xh_H) (T : Nat → Nat) (n mem : Nat) (v : Option Value) (h' : xh_H) : Prop := v = none ∧ fx cT fN h0 h' ∧ (tx_G T n mem h' ∨ ∃ k, xg 0 h'.2.1 3 8 = nI k ∧ 1 ≤ k ∧ k ≤ 4)
set_option maxRecDepth 100000 in
set_option maxHeartbeats 4000000 in
theorem rd_finp {f p o : Nat} {P : cdL} {h0 h : xh_H} (c0 : cr h T n mem nn NM p o 0) (g0 : fx cT fN h0 h) (pt : ptx h P) (pl : P.length ≤ 3 * o + nn) (fw : FW T n mem P p o nn (nmW T NM)) (o6 : o ≤ 120) (hb0 : ky T n p 0 = false) (hq : a_rq a_tb h) : xq f xi_X4_read xmi_X4_read 81 [(0, .ref 3), (2, .int (Int32.ofInt 1))] [] h (rt_P h0 T n mem) := by
  have hT : ∀ k, k < n → T k < 256 := fun k hk' => (c0.1.2.2 k hk').1
  have kb := tkk_lt (T := T) (n := n) (p := p) hT
  have n6 := c0.1.2.1
  have s6 := tks_le (T := T) (n := n) (p := p)
  have mm := c0.2.2.2.2.1
  have n16 := c0.2.2.2.2.2.2.2.2.2.1.2.1
  refine xq_n 88 [0, 2] [(0, .ref 3), (2, .int (Int32.ofInt 1))] [.float 3, .ref 3] h [false] 6 hq rfl ⟨(by decide), trivial⟩ (fun hq => ?_)
  refine xq_run hq rfl rfl (xq_and (tw1_q c0 hq) (tw1_n c0 hq)) ?_
  rintro v1 h1 ⟨⟨g1, l1, q1⟩, n1⟩
  have hq := fx_q g1 hq
  by_cases w1_0 : ky T n p 1 = false
  · obtain ⟨rfl, f1, y1, z1, e61, e1⟩ := q1 1 (tks T n p) (by unfold kW; rw [if_pos w1_0])
    refine xq_n 115 [] [] [] h1 [true] 3 hq rfl ⟨(by decide), trivial⟩ (fun hq => ?_)
    exact xq_ret rfl rfl rfl ⟨rfl, fx_t g0 (fx_w (fx_t (fx_0) (g1)) (fun _ _ => cS_t) (fun _ _ z => z)), Or.inr ⟨_, f1, by omega, by omega⟩⟩
  · skip
    have w1_0t : ky T n p 1 = true := eq_true_of_ne_false w1_0
    have dw1_0 := of_decide_eq_true w1_0t
    obtain ⟨rfl, c1⟩ := l1 (tke T n p) (o) (0) (by unfold kW; rw [if_neg w1_0])
    have kb1 := tkk_lt (T := T) (n := n) (p := tke T n p) hT
    have s61 := tks_le (T := T) (n := n) (p := tke T n p)
    refine xq_n 95 [0, 2] [(0, .ref 3), (2, .int (Int32.ofInt 1))] [.ref 3] h1 [false] 4 hq rfl ⟨(by decide), trivial⟩ (fun hq => ?_)
    refine xq_run hq rfl rfl ((rp_all f).2.2.1 _ _ _ _ (P) c1 (ptx_n (pt) n1) (by omega) (by omega) (by omega) hq) ?_
    rintro v2 h2 ⟨g2, ⟨rfl, pq2, oq2, cq2, c2, lt2, le2, x2, ln2, G2⟩ | ⟨rfl, kq2, f2, ka2, kz2⟩⟩
    · have hq := fx_q g2 hq
      have kb2 := tkk_lt (T := T) (n := n) (p := pq2) hT
      have s62 := tks_le (T := T) (n := n) (p := pq2)
      refine xq_n 104 [0, 2] [(0, .ref 3), (2, .int (Int32.ofInt 1))] [.int 59, .ref 3] h2 [false] 5 hq rfl ⟨(by decide), trivial⟩ (fun hq => ?_)
      refine xq_run hq rfl rfl (xq_and (ts_q (c := 59) (by decide) (by decide) c2 hq) (ts_n (c := 59) (by decide) (by decide) c2 hq)) ?_
      rintro v3 h3 ⟨⟨g3, l3, q3⟩, n3⟩
      have hq := fx_q g3 hq
      by_cases w3_0 : tkk T n pq2 ≠ 59
      · obtain ⟨rfl, f3, y3, z3, e63, e3⟩ := q3 1 (tks T n pq2) (by unfold kS; rw [if_pos w3_0])
        refine xq_n 115 [] [] [] h3 [true] 3 hq rfl ⟨(by decide), trivial⟩ (fun hq => ?_)
        exact xq_ret rfl rfl rfl ⟨rfl, fx_t g0 (fx_w (fx_t (fx_t (fx_t (fx_0) (g1)) (g2)) (g3)) (fun _ _ => cS_t) (fun _ _ z => z)), Or.inr ⟨_, f3, by omega, by omega⟩⟩
      · skip
        obtain ⟨rfl, c3⟩ := l3 (tke T n pq2) (oq2) (0) (by unfold kS; rw [if_neg w3_0])
        have kb3 := tkk_lt (T := T) (n := n) (p := tke T n pq2) hT
        have s63 := tks_le (T := T) (n := n) (p := tke T n pq2)
        refine xq_n 111 [0, 2] [(0, .ref 3), (2, .int (Int32.ofInt 1))] [.ref 3] h3 [false] 4 hq rfl ⟨(by decide), trivial⟩ (fun hq => ?_)
        refine xq_run hq rfl rfl (xq_and (te_q c3 hq) (te_n c3 hq)) ?_
        rintro v4 h4 ⟨⟨g4, l4, q4⟩, n4⟩
        have hq := fx_q g4 hq
        by_cases w4 : tkk T n (tke T n pq2) = 0 ∧ n ≤ 600
        · obtain ⟨rfl, c4⟩ := l4 (tke T n pq2) (oq2) (0) (by unfold kE; rw [if_pos w4])
          refine xq_n 115 [] [] [] h4 [] 3 hq rfl trivial (fun hq => ?_)
          exact xq_ret rfl rfl rfl ⟨rfl, fx_t g0 (fx_w (fx_t (fx_t (fx_t (fx_t (fx_0) (g1)) (g2)) (g3)) (g4)) (fun _ _ => cS_t) (fun _ _ z => z)), Or.inl (FW_e fw hb0 (by assumption) G2.2.2 G2.1 G2.2.1 (by omega) (rk0.mpr w4) (ptx_n (ptx_n (x2) n3) n4) (by first | omega | (simp only [List.length_append, List.length_cons, List.length_nil]; omega)))⟩
        · obtain ⟨rfl, f4, y4, -⟩ := q4 1 (tks T n (tke T n pq2)) (by unfold kE; rw [if_neg w4])
          refine xq_n 115 [] [] [] h4 [] 3 hq rfl trivial (fun hq => ?_)
          exact xq_ret rfl rfl rfl ⟨rfl, fx_t g0 (fx_w (fx_t (fx_t (fx_t (fx_t (fx_0) (g1)) (g2)) (g3)) (g4)) (fun _ _ => cS_t) (fun _ _ z => z)), Or.inr ⟨_, f4, by omega, by omega⟩⟩
    · have hq := fx_q g2 hq
      refine xq_n 115 [] [] [] h2 [true] 3 hq rfl ⟨(by decide), trivial⟩ (fun hq => ?_)
      exact xq_ret rfl rfl rfl ⟨rfl, fx_t g0 (fx_w (fx_t (fx_t (fx_0) (g1)) (g2)) (fun _ _ => cS_t) (fun _ _ z => z)), Or.inr ⟨_, f2, by omega, by omega⟩⟩
set_option maxRecDepth 100000 in
set_option maxHeartbeats 4000000 in
theorem rdb_lpp {h0 : xh_H} : ∀ (f nn p o : Nat) (NM : Nat → Nat × Nat) (P : cdL) (h : xh_H), cr h T n mem nn NM p o 0 → fx cT fN h0 h → ptx h P → P.length ≤ 3 * o + nn → FW T n mem P p o nn (nmW T NM) → o ≤ 120 → a_rq a_tb h → xq f xi_X4_read xmi_X4_read 48 [(0, .ref 3), (2, .int (Int32.ofInt 1)), (3, .int (nI nn))] [] h (rt_P h0 T n mem) := by
  intro f
  induction f with
  | zero => intros; exact xq_0
  | succ f ih =>
    intro nn p o NM P h c0 g0 pt pl fw o6 hq
    have n16 := c0.2.2.2.2.2.2.2.2.2.1.2.1
    refine xq_m 64 [0, 2, 3] [(0, .ref 3), (2, .int (Int32.ofInt 1)), (3, .int (nI nn))] [.float 2, .ref 8] h [false, false] 10 hq rfl ⟨(show xe_c .gt (nI nn) 16 = false by exact xgt_f (by rw [nI_toInt (by omega)]; show ((nn : Nat) : Int) ≤ 16; omega)), by decide, trivial⟩ (fun hq => ?_)
    refine xq_run hq rfl rfl (iw0_q c0.1 c0.2.1 hq) ?_
    rintro v h1 ⟨rfl, rfl⟩
    cases b : ky T n p 0 with
    | false =>
      refine xq_n 81 [0, 2] [(0, .ref 3), (2, .int (Int32.ofInt 1))] [] h [true] 3 hq rfl ⟨rfl, trivial⟩ (fun hq => ?_)
      exact rd_finp c0 g0 pt pl fw o6 b hq
    | true =>
      have db := of_decide_eq_true b
      refine xq_n 71 [0, 3] [(0, .ref 3), (3, .int (nI nn))] [.ref 3] h [false] 4 hq rfl ⟨rfl, trivial⟩ (fun hq => ?_)
      refine xq_run hq rfl rfl (bd_p c0 pt pl o6 (by omega) hq) ?_
      rintro v h1 ⟨g1, ⟨rfl, p', o', c, oo, o7, c1, x1, ln, kn, hn', n15, k58, hv, k2, k3, k59⟩ | ⟨rfl, k, f1, ka, kz⟩⟩
      · have hq := fx_q g1 hq
        refine xq_n 48 [0, 2, 3] [(0, .ref 3), (2, .int (Int32.ofInt 1)), (3, .int ((nI nn) + Int32.ofInt 1))] [] h1 [] 5 hq rfl trivial (fun hq => ?_)
        rw [show nI nn + Int32.ofInt 1 = nI (nn + 1) from nI_1 _]
        have fw' := FW_s fw b kn hn' n15 k58 hv k2 k3 k59
        rw [show upN (nmW T NM) nn (tkw T n (tke T n p)) = nmW T (upM NM nn (tks T n (tke T n p), tke T n (tke T n p))) from (nmW_up (x := (tks T n (tke T n p), tke T n (tke T n p)))).symm] at fw'
        exact ih (nn + 1) _ o' _ _ h1 c1 (fx_t g0 g1) x1 (by simp only [List.length_append, List.length_cons, List.length_nil]; omega) fw' o7 hq
      · have hq := fx_q g1 hq
        refine xq_n 48 [0, 2, 3] [(0, .ref 3), (2, .int (Int32.ofInt 0)), (3, .int ((nI nn) + Int32.ofInt 1))] [] h1 [] 5 hq rfl trivial (fun hq => ?_)
        refine xq_mono (rd_z hq) (fun v h' e => ?_)
        obtain ⟨rfl, rfl⟩ := e
        exact ⟨rfl, fx_t g0 g1, Or.inr ⟨k, f1, ka, kz⟩⟩
set_option maxRecDepth 100000 in
set_option maxHeartbeats 4000000 in
/-- Reader.read -/
theorem read_p {f : Nat} {h : xh_H} (hc : ct h T n) (m12 : mem ≤ 12) (hq : a_rq a_tb h) : xq f xi_X4_read xmi_X4_read 0 [(0, .ref 3), (1, .int (nI mem))] [] h (fun v h' => tx_G T n mem h' ∨ ∃ k, xg 0 h'.2.1 3 8 = nI k ∧ 1 ≤ k ∧ k ≤ 4) := by
  refine xq_n 4 [0, 1] [(0, .ref 3), (1, .int (nI mem))] [.ref 4] h [] 4 hq rfl trivial (fun hq => ?_)
  refine xq_run (Q1 := fun v h' => v = none ∧ fx aS_ fN h h' ∧ xg 0 h'.2.1 4 3 = nI 0) hq rfl rfl ?_ ?_
  · refine xq_n 5 [] [] [] (xh_ui h 4 3 (Int32.ofInt 0)) [] 5 hq rfl trivial (fun _ => ?_)
    exact xq_ret rfl rfl rfl ⟨rfl, fx_ui fx_0 rfl, gx_s⟩
  rintro v h1 ⟨rfl, g1, z1⟩
  have hq := fx_q g1 hq
  refine xq_n 41 [0] [(0, .ref 3)] [.ref 8] (xh_ui (xh_ui (xh_ui (xh_ui (xh_ui (xh_ui h1 3 4 (nI mem)) 3 5 (Int32.ofInt 0)) 3 6 (Int32.ofInt 0)) 3 7 (Int32.ofInt 0)) 3 8 (Int32.ofInt 0)) 3 9 (Int32.ofInt 0)) [] 24 hq rfl trivial (fun _ => ?_)
  have hq : a_rq a_tb (xh_ui (xh_ui (xh_ui (xh_ui (xh_ui (xh_ui h1 3 4 (nI mem)) 3 5 (Int32.ofInt 0)) 3 6 (Int32.ofInt 0)) 3 7 (Int32.ofInt 0)) 3 8 (Int32.ofInt 0)) 3 9 (Int32.ofInt 0)) := a_rq_ui (a_rq_ui (a_rq_ui (a_rq_ui (a_rq_ui (a_rq_ui hq)))))
  have g2 : fx cU fN h (xh_ui (xh_ui (xh_ui (xh_ui (xh_ui (xh_ui h1 3 4 (nI mem)) 3 5 (Int32.ofInt 0)) 3 6 (Int32.ofInt 0)) 3 7 (Int32.ofInt 0)) 3 8 (Int32.ofInt 0)) 3 9 (Int32.ofInt 0)) := fx_ui (fx_ui (fx_ui (fx_ui (fx_ui (fx_ui (fx_w g1 (fun c k z => by obtain ⟨-, z⟩ := or_f z; obtain ⟨-, z⟩ := or_f z; obtain ⟨z4, z⟩ := or_f z; obtain ⟨z5, z⟩ := or_f z; obtain ⟨z6, -⟩ := or_f z; unfold aS_; rw [z4, z5, z6]; rfl) (fun _ _ z => z)) rfl) rfl) rfl) rfl) rfl) rfl
  have e4 : xg 0 (xh_ui (xh_ui (xh_ui (xh_ui (xh_ui (xh_ui h1 3 4 (nI mem)) 3 5 (Int32.ofInt 0)) 3 6 (Int32.ofInt 0)) 3 7 (Int32.ofInt 0)) 3 8 (Int32.ofInt 0)) 3 9 (Int32.ofInt 0)).2.1 3 4 = nI mem := (gx_k (by decide)).trans ((gx_k (by decide)).trans ((gx_k (by decide)).trans ((gx_k (by decide)).trans ((gx_k (by decide)).trans gx_s))))
  have e5 : xg 0 (xh_ui (xh_ui (xh_ui (xh_ui (xh_ui (xh_ui h1 3 4 (nI mem)) 3 5 (Int32.ofInt 0)) 3 6 (Int32.ofInt 0)) 3 7 (Int32.ofInt 0)) 3 8 (Int32.ofInt 0)) 3 9 (Int32.ofInt 0)).2.1 3 5 = nI 0 := (gx_k (by decide)).trans ((gx_k (by decide)).trans ((gx_k (by decide)).trans ((gx_k (by decide)).trans gx_s)))
  have e6 : xg 0 (xh_ui (xh_ui (xh_ui (xh_ui (xh_ui (xh_ui h1 3 4 (nI mem)) 3 5 (Int32.ofInt 0)) 3 6 (Int32.ofInt 0)) 3 7 (Int32.ofInt 0)) 3 8 (Int32.ofInt 0)) 3 9 (Int32.ofInt 0)).2.1 3 6 = nI 0 := (gx_k (by decide)).trans ((gx_k (by decide)).trans ((gx_k (by decide)).trans gx_s))
  have e7 : xg 0 (xh_ui (xh_ui (xh_ui (xh_ui (xh_ui (xh_ui h1 3 4 (nI mem)) 3 5 (Int32.ofInt 0)) 3 6 (Int32.ofInt 0)) 3 7 (Int32.ofInt 0)) 3 8 (Int32.ofInt 0)) 3 9 (Int32.ofInt 0)).2.1 3 7 = nI 0 := (gx_k (by decide)).trans ((gx_k (by decide)).trans gx_s)
  have e8 : xg 0 (xh_ui (xh_ui (xh_ui (xh_ui (xh_ui (xh_ui h1 3 4 (nI mem)) 3 5 (Int32.ofInt 0)) 3 6 (Int32.ofInt 0)) 3 7 (Int32.ofInt 0)) 3 8 (Int32.ofInt 0)) 3 9 (Int32.ofInt 0)).2.1 3 8 = nI 0 := (gx_k (by decide)).trans gx_s
  have e43 : xg 0 (xh_ui (xh_ui (xh_ui (xh_ui (xh_ui (xh_ui h1 3 4 (nI mem)) 3 5 (Int32.ofInt 0)) 3 6 (Int32.ofInt 0)) 3 7 (Int32.ofInt 0)) 3 8 (Int32.ofInt 0)) 3 9 (Int32.ofInt 0)).2.1 4 3 = nI 0 := (gx_o (by decide)).trans ((gx_o (by decide)).trans ((gx_o (by decide)).trans ((gx_o (by decide)).trans ((gx_o (by decide)).trans ((gx_o (by decide)).trans z1)))))
  generalize xh_ui (xh_ui (xh_ui (xh_ui (xh_ui (xh_ui h1 3 4 (nI mem)) 3 5 (Int32.ofInt 0)) 3 6 (Int32.ofInt 0)) 3 7 (Int32.ofInt 0)) 3 8 (Int32.ofInt 0)) 3 9 (Int32.ofInt 0) = h2 at hq g2 e4 e5 e6 e7 e8 e43 ⊢
  refine xq_run hq rfl rfl (beg_q (ct_f hc g2 rfl (fun _ => rfl)) hq) ?_
  rintro v h3 ⟨rfl, g3, t3, l3⟩
  have hq := fx_q g3 hq
  have g4 : fx cU fN h h3 := fx_t g2 (fx_w g3 (fun c k z => (or_f z).1) (fun _ _ z => z))
  refine xq_n 48 [0, 2, 3] [(0, .ref 3), (2, .int (Int32.ofInt 1)), (3, .int (Int32.ofInt 0))] [] h3 [] 6 hq rfl trivial (fun hq => ?_)
  have c3 : cr h3 T n mem 0 (fun _ => (0, 0)) 0 0 0 := ⟨ct_f hc g4 rfl (fun _ => rfl), t3, l3, (fx_i g3 rfl).trans e4, m12, (fx_i g3 rfl).trans e5, by decide, (fx_i g3 rfl).trans e6, by decide, ⟨(fx_i g3 rfl).trans e7, by decide, fun k hk' => absurd hk' (Nat.not_lt_zero k)⟩, (fx_i g3 rfl).trans e8⟩
  have pt : ptx h3 [] := ⟨(fx_i g3 rfl).trans e43, fun k hk' => absurd hk' (Nat.not_lt_zero k)⟩
  have fw : FW T n mem [] 0 0 0 (nmW T (fun _ => (0, 0))) := fun sv _ => ⟨fun _ => false, nI 0, ⟨0, by decide, rfl, fun k hk' => absurd hk' (Nat.not_lt_zero k)⟩, rfl, fun y j ht => by rw [Nat.zero_add]; exact ht⟩
  refine xq_mono (rdb_lpp f 0 0 0 _ [] h3 c3 fx_0 pt (Nat.zero_le _) fw (by decide) hq) (fun v h' e => ?_)
  exact e.2.2
end XPT2
end
section
section XDB
variable {T : Nat → Nat} {n mem nn : Nat} {NW : Nat → Nat}
/-- what the reference holds of one set, level by level -/
def dfr (h : xh_H) (sv : Nat) : List Nat → List vF → Prop
  | [], [] => True
  | t :: fs, x :: ds => (t = 2 → xg 0 h.2.1 46 (4096 * fs.length + sv) = x.2.2.1 ∧ xg 0 h.2.1 48 fs.length = x.2.2.2.1 ∧ xg 0 h.2.1 49 fs.length = x.2.2.2.2) ∧ (t ≠ 2 → xg 0 h.2.1 41 (4096 * fs.length + sv) = bl x.1 ∧ xg 0 h.2.1 42 (4096 * fs.length + sv) = bl x.2.1) ∧ dfr h sv fs ds
  | _, _ => False
theorem dfr_5 {h h' : xh_H} {sv : Nat} (s4 : sv < 4096) : ∀ {fs : List Nat} {ds : List vF}, (∀ k, k < 4096 * fs.length → xg 0 h'.2.1 41 k = xg 0 h.2.1 41 k) → (∀ k, k < 4096 * fs.length → xg 0 h'.2.1 42 k = xg 0 h.2.1 42 k) → (∀ k, k < 4096 * fs.length → xg 0 h'.2.1 46 k = xg 0 h.2.1 46 k) → (∀ k, k < fs.length → xg 0 h'.2.1 48 k = xg 0 h.2.1 48 k) → (∀ k, k < fs.length → xg 0 h'.2.1 49 k = xg 0 h.2.1 49 k) → dfr h sv fs ds → dfr h' sv fs ds := by
  intro fs
  induction fs with
  | nil =>
    intro ds _ _ _ _ _ d
    cases ds with
    | nil => trivial
    | cons x ds => exact d
  | cons t fs ih =>
    intro ds e1 e2 e3 e4 e5 d
    cases ds with
    | nil => exact d
    | cons x ds =>
      have L : (t :: fs).length = fs.length + 1 := rfl
      rw [L] at e1 e2 e3 e4 e5
      refine ⟨fun z => ?_, fun z => ?_, ih (fun k hk' => e1 k (by omega)) (fun k hk' => e2 k (by omega)) (fun k hk' => e3 k (by omega)) (fun k hk' => e4 k (by omega)) (fun k hk' => e5 k (by omega)) d.2.2⟩
      · rw [e3 _ (by omega), e4 _ (by omega), e5 _ (by omega)]
        exact d.1 z
      · rw [e1 _ (by omega), e2 _ (by omega)]
        exact d.2.1 z
theorem dfr_39 {h : xh_H} {sv k : Nat} {x : Int32} (s4 : sv < 4096) {fs : List Nat} {ds : List vF} (d : dfr h sv fs ds) : dfr (xh_ui h 39 k x) sv fs ds := dfr_5 s4 (fun _ _ => gx_o (by decide)) (fun _ _ => gx_o (by decide)) (fun _ _ => gx_o (by decide)) (fun _ _ => gx_o (by decide)) (fun _ _ => gx_o (by decide)) d
theorem dfr_45 {h : xh_H} {sv k : Nat} {x : Int32} (s4 : sv < 4096) {fs : List Nat} {ds : List vF} (d : dfr h sv fs ds) : dfr (xh_ui h 45 k x) sv fs ds := dfr_5 s4 (fun _ _ => gx_o (by decide)) (fun _ _ => gx_o (by decide)) (fun _ _ => gx_o (by decide)) (fun _ _ => gx_o (by decide)) (fun _ _ => gx_o (by decide)) d
theorem dfr_go {h h' : xh_H} {sv : Nat} (s4 : sv < 4096) {fs : List Nat} {ds : List vF} (d : dfr h sv fs ds) (g : fx gS gL h h') : dfr h' sv fs ds := dfr_5 s4 (fun _ _ => fx_i g rfl) (fun _ _ => fx_i g rfl) (fun _ _ => fx_i g rfl) (fun _ _ => fx_i g rfl) (fun _ _ => fx_i g rfl) d
theorem dfr_48 {h : xh_H} {sv : Nat} {x : Int32} (s4 : sv < 4096) {t : Nat} {fs : List Nat} {ds : List vF} (d : dfr h sv (t :: fs) ds) : dfr (xh_ui h 48 fs.length x) sv (t :: fs) (vw x ds) := by
  cases ds with
  | nil => exact absurd d (by unfold dfr; exact id)
  | cons y ds =>
    obtain ⟨y1, y2, y3, y4, y5⟩ := y
    refine ⟨fun z => ⟨(gx_o (by decide)).trans (d.1 z).1, gx_s, (gx_o (by decide)).trans (d.1 z).2.2⟩, fun z => ⟨(gx_o (by decide)).trans (d.2.1 z).1, (gx_o (by decide)).trans (d.2.1 z).2⟩, dfr_5 s4 (fun _ _ => gx_o (by decide)) (fun _ _ => gx_o (by decide)) (fun _ _ => gx_o (by decide)) (fun k hk' => gx_k (by omega)) (fun _ _ => gx_o (by decide)) d.2.2⟩
/-- what opening a level may change -/
def oD (t c k : Nat) : Bool := (Nat.beq c 39 && ((Nat.ble 7 k && Nat.ble k 12) || Nat.beq k 29)) || (((Nat.beq c 41 || (Nat.beq c 42 || Nat.beq c 46)) && Nat.ble (4096 * t) k) || ((Nat.beq c 47 || (Nat.beq c 48 || Nat.beq c 49)) && Nat.beq k t))
theorem gS_oD {t c k : Nat} (h : oD t c k = false) : gS c k = false := by
  unfold oD at h
  unfold gS
  have h1 := (or_f h).1
  cases h2 : Nat.beq c 39 with
  | false => rfl
  | true => rw [h2] at h1; exact (or_f h1).1
theorem oDw1 {t k : Nat} (h : 4096 * t ≤ k) : oD t 41 k = true := by
  show (Nat.ble (4096 * t) k || false) = true
  rw [Nat.ble_eq.mpr h]
  rfl
theorem oDw2 {t k : Nat} (h : 4096 * t ≤ k) : oD t 42 k = true := by
  show (Nat.ble (4096 * t) k || false) = true
  rw [Nat.ble_eq.mpr h]
  rfl
theorem oDw6 {t k : Nat} (h : 4096 * t ≤ k) : oD t 46 k = true := by
  show (Nat.ble (4096 * t) k || false) = true
  rw [Nat.ble_eq.mpr h]
  rfl
theorem oDe7 {t : Nat} : oD t 47 t = true := by
  show Nat.beq t t = true
  exact Nat.beq_refl t
theorem oDe8 {t : Nat} : oD t 48 t = true := by
  show Nat.beq t t = true
  exact Nat.beq_refl t
theorem oDe9 {t : Nat} : oD t 49 t = true := by
  show Nat.beq t t = true
  exact Nat.beq_refl t
theorem oDn1 {t k : Nat} (h : k < 4096 * t) : oD t 41 k = false := by
  show (Nat.ble (4096 * t) k || false) = false
  rw [show Nat.ble (4096 * t) k = false from by rw [Bool.eq_false_iff]; intro z; have := Nat.ble_eq.mp z; omega]
  rfl
theorem oDn2 {t k : Nat} (h : k < 4096 * t) : oD t 42 k = false := by
  show (Nat.ble (4096 * t) k || false) = false
  rw [show Nat.ble (4096 * t) k = false from by rw [Bool.eq_false_iff]; intro z; have := Nat.ble_eq.mp z; omega]
  rfl
theorem oDn6 {t k : Nat} (h : k < 4096 * t) : oD t 46 k = false := by
  show (Nat.ble (4096 * t) k || false) = false
  rw [show Nat.ble (4096 * t) k = false from by rw [Bool.eq_false_iff]; intro z; have := Nat.ble_eq.mp z; omega]
  rfl
theorem oDn8 {t k : Nat} (h : k < t) : oD t 48 k = false := by
  show Nat.beq k t = false
  rw [Bool.eq_false_iff]; intro z; have := Nat.eq_of_beq_eq_true z; omega
theorem oDn9 {t k : Nat} (h : k < t) : oD t 49 k = false := by
  show Nat.beq k t = false
  rw [Bool.eq_false_iff]; intro z; have := Nat.eq_of_beq_eq_true z; omega
theorem dfr_op {h h' : xh_H} {sv : Nat} {L : Nat → Nat → Bool} (s4 : sv < 4096) {fs : List Nat} {ds : List vF} (d : dfr h sv fs ds) (g : fx (oD fs.length) L h h') : dfr h' sv fs ds := dfr_5 s4 (fun _ hk' => fx_i g (oDn1 hk')) (fun _ hk' => fx_i g (oDn2 hk')) (fun _ hk' => fx_i g (oDn6 hk')) (fun _ hk' => fx_i g (oDn8 hk')) (fun _ hk' => fx_i g (oDn9 hk')) d
/-- a loop over all sets, seen at one of them -/
theorem lp_w {h : xh_H} {c b i sv : Nat} {y a z : Int32} (v : xg 0 h.2.1 c (b + sv) = if sv < i then a else z) (e : i = sv → y = a) : xg 0 (xh_ui h c (b + i) y).2.1 c (b + sv) = if sv < i + 1 then a else z := by
  by_cases w : i = sv
  · rw [← w, gx_s, if_pos (by omega)]
    exact e w
  · rw [gx_k (by omega), v]
    by_cases u : sv < i
    · rw [if_pos u, if_pos (by omega)]
    · rw [if_neg u, if_neg (by omega)]
theorem lp_w0 {h : xh_H} {c i sv : Nat} {y a z : Int32} (v : xg 0 h.2.1 c sv = if sv < i then a else z) (e : i = sv → y = a) : xg 0 (xh_ui h c i y).2.1 c sv = if sv < i + 1 then a else z := by
  by_cases w : i = sv
  · rw [← w, gx_s, if_pos (by omega)]
    exact e w
  · rw [gx_k (by omega), v]
    by_cases u : sv < i
    · rw [if_pos u, if_pos (by omega)]
    · rw [if_neg u, if_neg (by omega)]
theorem lp_n {x a z : Int32} {i sv : Nat} (v : x = if sv < i then a else z) (e : i = sv → z = a) : x = if sv < i + 1 then a else z := by
  rw [v]
  by_cases w : i = sv
  · rw [if_neg (by omega), if_pos (by omega)]
    exact e w
  · by_cases u : sv < i
    · rw [if_pos u, if_pos (by omega)]
    · rw [if_neg u, if_neg (by omega)]
theorem lp_1 {x a z : Int32} {i sv : Nat} (v : x = if sv < i then a else z) (h : sv < i) : x = a := by rw [v, if_pos h]
theorem lp_0 {x z : Int32} {sv : Nat} (a : Int32) (v : x = z) : x = if sv < 0 then a else z := by rw [v, if_neg (by omega)]
theorem idx_a {t i : Nat} : 4096 * nI t + nI i = nI (4096 * t + i) := by
  show nI 4096 * nI t + nI i = nI (4096 * t + i)
  rw [← nI_mul2, nI_add]
def dQ (h' : xh_H) (sv : Nat) (r : aRs) (x : List vF × Bool) : Prop := ∀ aw p' o' fs', r = .inl (aw, p', o', fs') → dfr h' sv fs' x.1 ∧ xg 0 h'.2.1 45 sv = bl x.2
theorem dQ_l {h' : xh_H} {sv aw p' o' : Nat} {fs' : List Nat} {r : aRs} {x : List vF × Bool} (er : r = .inl (aw, p', o', fs')) (a : dfr h' sv fs' x.1) (b : xg 0 h'.2.1 45 sv = bl x.2) : dQ h' sv r x := by
  subst er
  intro _ _ _ _ e
  cases e
  exact ⟨a, b⟩
theorem dQ_r {h' : xh_H} {sv : Nat} {e : Nat × Nat} {r : aRs} {x : List vF × Bool} (er : r = .inr e) : dQ h' sv r x := fun _ _ _ _ z => by rw [er] at z; cases z
def dnm (h : xh_H) (sv nn : Nat) (NV : Nat → Bool) : Prop := ∀ k, k < nn → xg 0 h.2.1 43 (4096 * k + sv) = bl (NV k)
set_option maxRecDepth 100000 in
set_option maxHeartbeats 4000000 in
theorem opr_dl {n e t sv : Nat} {T : Nat → Nat} {h0 : xh_H} {z41 z42 : Int32} (he : e ≤ n) (t12 : t ≤ 12) (s4 : sv < 4096) : ∀ (f i : Nat) (h : xh_H), a_rq a_tb h → fx (oD t) gL h0 h → rtp h T n → xg 0 h.2.1 39 7 = nI e → xg 0 h.2.1 39 28 = nI t → i ≤ 4096 → xg 0 h.2.1 41 (4096 * t + sv) = (if sv < i then 0 else z41) → xg 0 h.2.1 42 (4096 * t + sv) = (if sv < i then 1 else z42) → xq f xi_X10_openRule xmi_X10_openRule 12 [(0, .ref 39), (2, .int (nI i))] [] h (fun v h' => fx (oD t) gL h0 h' ∧ xg 0 h'.2.1 41 (4096 * t + sv) = 0 ∧ xg 0 h'.2.1 42 (4096 * t + sv) = 1) := by
  intro f
  induction f with
  | zero => intros; exact xq_0
  | succ f ih =>
    intro i h hq g0 hc e7 e28 i6 w41 w42
    cases c1 : xe_c .ge (nI i) 4096 with
    | true =>
      have z1 : i ≥ 4096 := nq_get (a := i) (b := 4096) (by omega) (by omega) c1
      refine xq_m 63 [0, 2] [(0, .ref 39), (2, .int (nI i))] [.ref 39] (xh_ui h 39 29 (Int32.ofInt 1)) [true] 9 hq rfl ⟨c1, trivial⟩ (fun _ => ?_)
      have hq : a_rq a_tb (xh_ui h 39 29 (Int32.ofInt 1)) := a_rq_ui hq
      refine xq_run hq rfl rfl (go_q hq (rtp_f (S := oD t) (L := gL) hc (fx_ui (fx_0) rfl) rfl (fun _ => rfl)) ((gx_k (by decide)).trans (e7)) he) ?_
      rintro v2 h2 ⟨rfl, g2, -⟩
      have hq := fx_q g2 hq
      exact xq_ret rfl rfl rfl ⟨fx_t (fx_ui (g0) rfl) (fx_w g2 (fun _ _ => gS_oD) (fun _ _ z => z)), ((fx_i g2 rfl).trans (gx_o (by decide))).trans (lp_1 w41 (by omega)), ((fx_i g2 rfl).trans (gx_o (by decide))).trans (lp_1 w42 (by omega))⟩
    | false =>
      have z1 : i < 4096 := nq_gef (a := i) (b := 4096) (by omega) (by omega) c1
      refine xq_m 12 [0, 2] [(0, .ref 39), (2, .int ((nI i) + Int32.ofInt 1))] [] (xh_ui (xh_ui h 41 (((4096 * (xg 0 h.2.1 39 28)) + (nI i)).toNatClampNeg) (vp_nar .boolean (Int32.ofInt 0))) 42 (((4096 * (xg 0 (xh_ui h 41 (((4096 * (xg 0 h.2.1 39 28)) + (nI i)).toNatClampNeg) (vp_nar .boolean (Int32.ofInt 0))).2.1 39 28)) + (nI i)).toNatClampNeg) (vp_nar .boolean (Int32.ofInt 1))) [false] 27 hq rfl ⟨c1, trivial⟩ (fun _ => ?_)
      rw [show (xg 0 (xh_ui h 41 (((4096 * (xg 0 h.2.1 39 28)) + (nI i)).toNatClampNeg) (vp_nar .boolean (Int32.ofInt 0))).2.1 39 28) = (nI t) from (gx_o (by decide)).trans (e28)]
      rw [show (xg 0 h.2.1 39 28) = (nI t) from e28]
      rw [show ((4096 * (nI t)) + (nI i)) = nI (4096 * t + i) from idx_a]
      rw [show (vp_nar .boolean (Int32.ofInt 0)) = Int32.ofInt 0 from rfl]
      rw [show (vp_nar .boolean (Int32.ofInt 1)) = Int32.ofInt 1 from rfl]
      rw [show ((nI (4096 * t + i)).toNatClampNeg) = (4096 * t + i) from nI_clamp (by omega)]
      rw [show ((nI i) + Int32.ofInt 1) = nI (i + 1) from nI_1 _]
      have hq : a_rq a_tb (xh_ui (xh_ui h 41 (4096 * t + i) (Int32.ofInt 0)) 42 (4096 * t + i) (Int32.ofInt 1)) := a_rq_ui (a_rq_ui hq)
      exact ih (i + 1) _ hq (fx_ui (fx_ui (g0) (oDw1 (by omega))) (oDw2 (by omega))) (rtp_f (S := oD t) (L := gL) hc (fx_ui (fx_ui (fx_0) (oDw1 (by omega))) (oDw2 (by omega))) rfl (fun _ => rfl)) ((gx_o (by decide)).trans ((gx_o (by decide)).trans (e7))) ((gx_o (by decide)).trans ((gx_o (by decide)).trans (e28))) (by omega) ((gx_o (by decide)).trans (lp_w (w41) (fun _ => rfl))) (lp_w (((gx_o (by decide)).trans w42)) (fun _ => rfl))
set_option maxRecDepth 100000 in
set_option maxHeartbeats 4000000 in
theorem opr_d {f n e t sv : Nat} {a : Int32} {T : Nat → Nat} {h : xh_H} (s4 : sv < 4096) (t12 : t ≤ 12) (he : e ≤ n) (hq : a_rq a_tb h) (hc : rtp h T n) (e7 : xg 0 h.2.1 39 7 = nI e) (e28 : xg 0 h.2.1 39 28 = nI t) : xq f xi_X10_openRule xmi_X10_openRule 0 [(0, .ref 39), (1, .int a)] [] h (fun v h' => fx (oD t) gL h h' ∧ xg 0 h'.2.1 41 (4096 * t + sv) = 0 ∧ xg 0 h'.2.1 42 (4096 * t + sv) = 1) := by
  refine xq_n 12 [0, 2] [(0, .ref 39), (2, .int (Int32.ofInt 0))] [] (xh_ui h 47 ((xg 0 h.2.1 39 28).toNatClampNeg) a) [] 10 hq rfl trivial (fun _ => ?_)
  rw [show (xg 0 h.2.1 39 28) = (nI t) from e28]
  rw [show ((nI t).toNatClampNeg) = t from nI_clamp (by omega)]
  have hq : a_rq a_tb (xh_ui h 47 t a) := a_rq_ui hq
  exact opr_dl he t12 s4 f 0 _ hq (fx_ui (fx_0) oDe7) (rtp_f (S := oD t) (L := gL) hc (fx_ui (fx_0) oDe7) rfl (fun _ => rfl)) ((gx_o (by decide)).trans (e7)) ((gx_o (by decide)).trans (e28)) (by omega) (lp_0 _ rfl) (lp_0 _ rfl)
set_option maxRecDepth 100000 in
set_option maxHeartbeats 4000000 in
theorem opl_dl {n e t sv : Nat} {T : Nat → Nat} {h0 : xh_H} {z46 a : Int32} (he : e ≤ n) (t12 : t ≤ 12) (s4 : sv < 4096) : ∀ (f i : Nat) (h : xh_H), a_rq a_tb h → fx (oD t) gL h0 h → rtp h T n → xg 0 h.2.1 39 7 = nI e → xg 0 h.2.1 39 28 = nI t → i ≤ 4096 → xg 0 h.2.1 46 (4096 * t + sv) = (if sv < i then 0 else z46) → xg 0 h.2.1 48 t = 1 → xg 0 h.2.1 49 t = a → xq f xi_X10_openList xmi_X10_openList 32 [(0, .ref 39), (2, .int (nI i))] [] h (fun v h' => fx (oD t) gL h0 h' ∧ xg 0 h'.2.1 46 (4096 * t + sv) = 0 ∧ xg 0 h'.2.1 48 t = 1 ∧ xg 0 h'.2.1 49 t = a) := by
  intro f
  induction f with
  | zero => intros; exact xq_0
  | succ f ih =>
    intro i h hq g0 hc e7 e28 i6 w46 w48 w49
    cases c1 : xe_c .ge (nI i) 4096 with
    | true =>
      have z1 : i ≥ 4096 := nq_get (a := i) (b := 4096) (by omega) (by omega) c1
      refine xq_m 67 [0, 2] [(0, .ref 39), (2, .int (nI i))] [.ref 39] (xh_ui h 39 29 (Int32.ofInt 1)) [true] 9 hq rfl ⟨c1, trivial⟩ (fun _ => ?_)
      have hq : a_rq a_tb (xh_ui h 39 29 (Int32.ofInt 1)) := a_rq_ui hq
      refine xq_run hq rfl rfl (go_q hq (rtp_f (S := oD t) (L := gL) hc (fx_ui (fx_0) rfl) rfl (fun _ => rfl)) ((gx_k (by decide)).trans (e7)) he) ?_
      rintro v2 h2 ⟨rfl, g2, -⟩
      have hq := fx_q g2 hq
      exact xq_ret rfl rfl rfl ⟨fx_t (fx_ui (g0) rfl) (fx_w g2 (fun _ _ => gS_oD) (fun _ _ z => z)), ((fx_i g2 rfl).trans (gx_o (by decide))).trans (lp_1 w46 (by omega)), (fx_i g2 rfl).trans ((gx_o (by decide)).trans (w48)), (fx_i g2 rfl).trans ((gx_o (by decide)).trans (w49))⟩
    | false =>
      have z1 : i < 4096 := nq_gef (a := i) (b := 4096) (by omega) (by omega) c1
      refine xq_m 32 [0, 2] [(0, .ref 39), (2, .int ((nI i) + Int32.ofInt 1))] [] (xh_ui h 46 (((4096 * (xg 0 h.2.1 39 28)) + (nI i)).toNatClampNeg) (Int32.ofInt 0)) [false] 17 hq rfl ⟨c1, trivial⟩ (fun _ => ?_)
      rw [show (xg 0 h.2.1 39 28) = (nI t) from e28]
      rw [show ((4096 * (nI t)) + (nI i)) = nI (4096 * t + i) from idx_a]
      rw [show ((nI (4096 * t + i)).toNatClampNeg) = (4096 * t + i) from nI_clamp (by omega)]
      rw [show ((nI i) + Int32.ofInt 1) = nI (i + 1) from nI_1 _]
      have hq : a_rq a_tb (xh_ui h 46 (4096 * t + i) (Int32.ofInt 0)) := a_rq_ui hq
      exact ih (i + 1) _ hq (fx_ui (g0) (oDw6 (by omega))) (rtp_f (S := oD t) (L := gL) hc (fx_ui (fx_0) (oDw6 (by omega))) rfl (fun _ => rfl)) ((gx_o (by decide)).trans (e7)) ((gx_o (by decide)).trans (e28)) (by omega) (lp_w (w46) (fun _ => rfl)) ((gx_o (by decide)).trans (w48)) ((gx_o (by decide)).trans (w49))
set_option maxRecDepth 100000 in
set_option maxHeartbeats 4000000 in
theorem opl_d {f n e t sv : Nat} {a : Int32} {T : Nat → Nat} {h : xh_H} (s4 : sv < 4096) (t12 : t ≤ 12) (he : e ≤ n) (hq : a_rq a_tb h) (hc : rtp h T n) (e7 : xg 0 h.2.1 39 7 = nI e) (e28 : xg 0 h.2.1 39 28 = nI t) : xq f xi_X10_openList xmi_X10_openList 0 [(0, .ref 39), (1, .int a)] [] h (fun v h' => fx (oD t) gL h h' ∧ xg 0 h'.2.1 46 (4096 * t + sv) = 0 ∧ xg 0 h'.2.1 48 t = 1 ∧ xg 0 h'.2.1 49 t = a) := by
  refine xq_n 32 [0, 2] [(0, .ref 39), (2, .int (Int32.ofInt 0))] [] (xh_ui (xh_ui (xh_ui h 47 ((xg 0 h.2.1 39 28).toNatClampNeg) (Int32.ofInt 2)) 49 ((xg 0 (xh_ui h 47 ((xg 0 h.2.1 39 28).toNatClampNeg) (Int32.ofInt 2)).2.1 39 28).toNatClampNeg) a) 48 ((xg 0 (xh_ui (xh_ui h 47 ((xg 0 h.2.1 39 28).toNatClampNeg) (Int32.ofInt 2)) 49 ((xg 0 (xh_ui h 47 ((xg 0 h.2.1 39 28).toNatClampNeg) (Int32.ofInt 2)).2.1 39 28).toNatClampNeg) a).2.1 39 28).toNatClampNeg) (Int32.ofInt 1)) [] 22 hq rfl trivial (fun _ => ?_)
  rw [show (xg 0 (xh_ui (xh_ui h 47 ((xg 0 h.2.1 39 28).toNatClampNeg) (Int32.ofInt 2)) 49 ((xg 0 (xh_ui h 47 ((xg 0 h.2.1 39 28).toNatClampNeg) (Int32.ofInt 2)).2.1 39 28).toNatClampNeg) a).2.1 39 28) = (nI t) from (gx_o (by decide)).trans ((gx_o (by decide)).trans (e28))]
  rw [show (xg 0 (xh_ui h 47 ((xg 0 h.2.1 39 28).toNatClampNeg) (Int32.ofInt 2)).2.1 39 28) = (nI t) from (gx_o (by decide)).trans (e28)]
  rw [show (xg 0 h.2.1 39 28) = (nI t) from e28]
  rw [show ((nI t).toNatClampNeg) = t from nI_clamp (by omega)]
  have hq : a_rq a_tb (xh_ui (xh_ui (xh_ui h 47 t (Int32.ofInt 2)) 49 t a) 48 t (Int32.ofInt 1)) := a_rq_ui (a_rq_ui (a_rq_ui hq))
  exact opl_dl he t12 s4 f 0 _ hq (fx_ui (fx_ui (fx_ui (fx_0) oDe7) oDe9) oDe8) (rtp_f (S := oD t) (L := gL) hc (fx_ui (fx_ui (fx_ui (fx_0) oDe7) oDe9) oDe8) rfl (fun _ => rfl)) ((gx_o (by decide)).trans ((gx_o (by decide)).trans ((gx_o (by decide)).trans (e7)))) ((gx_o (by decide)).trans ((gx_o (by decide)).trans ((gx_o (by decide)).trans (e28)))) (by omega) (lp_0 _ rfl) (gx_s) ((gx_o (by decide)).trans (gx_s))
set_option maxRecDepth 100000 in
set_option maxHeartbeats 4000000 in
theorem bls_d {f p o a : Nat} {fs : List Nat} {h : xh_H} {sv : Nat} {ds : List vF} {one : Bool} (s4 : sv < 4096) (dt : dfr h sv fs ds) (d45 : xg 0 h.2.1 45 sv = bl one) (rr0 : rr h T n mem nn NW p o fs) (hq : a_rq a_tb h) : xq f xi_X10_beginList xmi_X10_beginList 0 [(0, .ref 39), (1, .int (nI a))] [] h (fun v h' => dQ h' sv (bls T n p o fs) (vL (nI a) :: ds, one)) := by
  have hT : ∀ k, k < n → T k < 256 := fun k hk' => (rr0.1.2.2 k hk').1
  have rt := rr0.2.1
  have rb := (rkk_k (T := T) (n := n) (p := p)).1
  have kb := tkk_lt (T := T) (n := n) (p := p) hT
  have o120 := rr0.2.2.2.2.2.2.1
  have f1 := rr0.2.2.2.2.2.2.2.2.1
  have n16 := rr0.2.2.2.2.1.2.1
  have f13 := rr0.2.2.2.2.2.2.2.2.2.1
  have n6 := rr0.1.2.1
  refine xq_n 1 [0, 1] [(0, .ref 39), (1, .int (nI a))] [.ref 39] h [] 3 hq rfl trivial (fun hq => ?_)
  refine xq_run hq rfl rfl (rw4_q hT (rt) hq) ?_
  rintro v1 h_v1 ⟨rfl, rfl⟩
  cases b2 : (ky T n p 4) with
  | true =>
    have db2 := of_decide_eq_true b2
    refine xq_n 14 [0, 1] [(0, .ref 39), (1, .int (nI a))] [.ref 39] h [true] 4 hq rfl ⟨rfl, trivial⟩ (fun hq => ?_)
    have nz3 : tkk T n p ≠ 0 := by omega
    have le3 := tke_le nz3
    refine xq_run hq rfl rfl (go_q hq (rr0.1) (rt.2.2.2.2.2 (by omega)) le3) ?_
    rintro v3 h3 ⟨rfl, g3, t3⟩
    have hq := fx_q g3 hq
    have rb3 := (rkk_k (T := T) (n := n) (p := tke T n p)).1
    have kb3 := tkk_lt (T := T) (n := n) (p := tke T n p) hT
    refine xq_n 20 [0, 1] [(0, .ref 39), (1, .int (nI a))] [.int 91, .ref 39] h3 [] 4 hq rfl trivial (fun hq => ?_)
    refine xq_run hq rfl rfl (rsg_q (c := 91) (by decide) (by decide) hT (t3) hq) ?_
    rintro v4 h_v4 ⟨rfl, rfl⟩
    cases b5 : (decide (tkk T n (tke T n p) = 91)) with
    | true =>
      have db5 := of_decide_eq_true b5
      cases c6 : xe_c .ne (nI (fs.length - 1)) 12 with
      | true =>
        have z6 : (fs.length - 1) ≠ 12 := nq_net (a := (fs.length - 1)) (b := 12) (by omega) (by omega) c6
        refine xq_n 59 [0, 1] [(0, .ref 39), (1, .int (nI a))] [.int (nI a), .ref 39] (xh_ui h3 39 28 ((xg 0 h3.2.1 39 28) + (Int32.ofInt 1))) [true, true] 15 hq rfl ⟨rfl, (show xe_c .ne (xg 0 h3.2.1 39 28) 12 = true by rw [show (xg 0 h3.2.1 39 28) = (nI (fs.length - 1)) from (fx_i g3 rfl).trans (rr0.2.2.2.2.2.2.2.1)]; exact c6), trivial⟩ (fun _ => ?_)
        rw [show (xg 0 h3.2.1 39 28) = (nI (fs.length - 1)) from (fx_i g3 rfl).trans (rr0.2.2.2.2.2.2.2.1)]
        rw [show ((nI (fs.length - 1)) + (Int32.ofInt 1)) = nI (fs.length - 1 + 1) from nI_1 _]
        rw [show (nI (fs.length - 1 + 1)) = nI fs.length from (by rw [show fs.length - 1 + 1 = fs.length by omega])]
        have hq : a_rq a_tb (xh_ui h3 39 28 (nI fs.length)) := a_rq_ui hq
        have nz7 : tkk T n (tke T n p) ≠ 0 := by omega
        refine xq_run hq rfl rfl (xq_and (opl_q (t := fs.length) (by omega) (tke_le nz7) hq (rtp_f (S := rS) (L := gL) rr0.1 (fx_ui (fx_t (fx_0) (fx_w g3 (fun _ _ => gS_r) (fun _ _ z => z))) rfl) rfl (fun _ => rfl)) ((gx_k (by decide)).trans (t3.2.2.2.2.2 (by omega))) (gx_s)) (opl_d (t := fs.length) s4 (by omega) (tke_le nz7) hq (rtp_f (S := rS) (L := gL) rr0.1 (fx_ui (fx_t (fx_0) (fx_w g3 (fun _ _ => gS_r) (fun _ _ z => z))) rfl) rfl (fun _ => rfl)) ((gx_k (by decide)).trans (t3.2.2.2.2.2 (by omega))) (gx_s))) ?_
        rintro v7 h7 ⟨⟨rfl, g7, t7, y7, a7⟩, dg7, k17, k27, k37⟩
        have hq := fx_q g7 hq
        refine xq_n 63 [] [] [.int (Int32.ofInt 1)] h7 [] 3 hq rfl trivial (fun hq => ?_)
        have er : bls T n p o fs = .inl (1, tke T n (tke T n p), o, 2 :: fs) := by
          unfold bls
          repeat (first | rw [if_pos (by omega)] | rw [if_neg (by omega)] | rw [if_pos b2] | rw [if_neg (by rw [b2]; decide)] | rw [if_pos b5] | rw [if_neg (by rw [b5]; decide)])
          try rfl
        exact xq_ret rfl rfl rfl (dQ_l er ⟨fun _ => ⟨k17, k27, k37⟩, fun z => absurd rfl z, dfr_op s4 (dfr_39 s4 (dfr_go s4 (dt) g3)) dg7⟩ ((fx_i dg7 rfl).trans ((gx_o (by decide)).trans ((fx_i g3 rfl).trans (d45)))))
      | false =>
        have z6 : (fs.length - 1) = 12 := nq_nef (a := (fs.length - 1)) (b := 12) (by omega) (by omega) c6
        refine xq_n 43 [0, 1] [(0, .ref 39), (1, .int (nI a))] [.int (Int32.ofInt 4), .ref 39] h3 [true, false] 9 hq rfl ⟨rfl, (show xe_c .ne (xg 0 h3.2.1 39 28) 12 = false by rw [show (xg 0 h3.2.1 39 28) = (nI (fs.length - 1)) from (fx_i g3 rfl).trans (rr0.2.2.2.2.2.2.2.1)]; exact c6), trivial⟩ (fun hq => ?_)
        refine xq_run hq rfl rfl (bad_q (k := 4) hT (t3) hq) ?_
        rintro v8 h8 ⟨rfl, g8, f8, l8⟩
        have hq := fx_q g8 hq
        rw [if_neg (show ¬ rkk T n (tke T n p) = 1 from fun e => by have e1 := rk1.mp e; omega)] at f8
        have er : bls T n p o fs = .inr (4, tks T n (tke T n p)) := by
          unfold bls
          repeat (first | rw [if_pos (by omega)] | rw [if_neg (by omega)] | rw [if_pos b2] | rw [if_neg (by rw [b2]; decide)] | rw [if_pos b5] | rw [if_neg (by rw [b5]; decide)])
          try rfl
        exact xq_ret rfl rfl rfl (dQ_r er)
    | false =>
      have db5 := of_decide_eq_false b5
      refine xq_n 28 [0, 1] [(0, .ref 39), (1, .int (nI a))] [.int (Int32.ofInt 1), .ref 39] h3 [false] 5 hq rfl ⟨rfl, trivial⟩ (fun hq => ?_)
      refine xq_run hq rfl rfl (bad_q (k := 1) hT (t3) hq) ?_
      rintro v9 h9 ⟨rfl, g9, f9, l9⟩
      have hq := fx_q g9 hq
      rw [show (if rkk T n (tke T n p) = 1 then 1 else 1) = 1 by split <;> rfl] at f9
      have er : bls T n p o fs = .inr (1, tks T n (tke T n p)) := by
        unfold bls
        repeat (first | rw [if_pos (by omega)] | rw [if_neg (by omega)] | rw [if_pos b2] | rw [if_neg (by rw [b2]; decide)] | rw [if_pos b5] | rw [if_neg (by rw [b5]; decide)])
        try rfl
      exact xq_ret rfl rfl rfl (dQ_r er)
  | false =>
    have db2 := of_decide_eq_false b2
    refine xq_n 9 [0, 1] [(0, .ref 39), (1, .int (nI a))] [.int (Int32.ofInt 1), .ref 39] h [false] 5 hq rfl ⟨rfl, trivial⟩ (fun hq => ?_)
    refine xq_run hq rfl rfl (bad_q (k := 1) hT (rt) hq) ?_
    rintro v10 h10 ⟨rfl, g10, f10, l10⟩
    have hq := fx_q g10 hq
    rw [show (if rkk T n p = 1 then 1 else 1) = 1 by split <;> rfl] at f10
    have er : bls T n p o fs = .inr (1, tks T n p) := by
      unfold bls
      repeat (first | rw [if_pos (by omega)] | rw [if_neg (by omega)] | rw [if_pos b2] | rw [if_neg (by rw [b2]; decide)])
      try rfl
    exact xq_ret rfl rfl rfl (dQ_r er)
set_option maxRecDepth 100000 in
set_option maxHeartbeats 4000000 in
theorem np_lp {nn w : Nat} {NW : Nat → Nat} {h : xh_H} (nm : nms h nn NW) (e15 : xg 0 h.2.2.1 39 15 = Int64.ofNat w) (hw : w < 282429536481) : ∀ (f k : Nat), a_rq a_tb h → k ≤ nn → (∀ j, j < k → NW j ≠ w) → xq f xi_X10_nameAtHand xmi_X10_nameAtHand 2 [(0, .ref 39), (1, .int (nI k))] [] h (nh_P h nn NW w) := by
  have n16 := nm.2.1
  intro f
  induction f with
  | zero => intros; exact xq_0
  | succ f ih =>
    intro k hq hk' ha
    cases c1 : xe_c .ge (nI k) (nI nn) with
    | true =>
      have z1 : k ≥ nn := nq_get (a := k) (b := nn) (by omega) (by omega) c1
      refine xq_m 33 [] [] [.int (Int32.ofInt (-1))] h [true] 7 hq rfl ⟨(show xe_c .ge (nI k) (xg 0 h.2.1 39 26) = true by rw [show (xg 0 h.2.1 39 26) = (nI nn) from nm.1]; exact c1), trivial⟩ (fun hq => ?_)
      exact xq_ret rfl rfl rfl ⟨rfl, Or.inl ⟨rfl, decide_eq_false (fun ⟨j, y1, y2⟩ => ha j (by omega) y2)⟩⟩
    | false =>
      have z1 : k < nn := nq_gef (a := k) (b := nn) (by omega) (by omega) c1
      have nwk := (nm.2.2 k (by omega)).1
      cases c2 : xe_c .ne (lg_cmp (Int64.ofNat (NW k)) (Int64.ofNat w)) 0 with
      | true =>
        have z2 : (NW k) ≠ w := fun y => xne_i c2 (lg0.mpr (by rw [y]))
        refine xq_m 2 [0, 1] [(0, .ref 39), (1, .int ((nI k) + Int32.ofInt 1))] [] h [false, true] 16 hq rfl ⟨(show xe_c .ge (nI k) (xg 0 h.2.1 39 26) = false by rw [show (xg 0 h.2.1 39 26) = (nI nn) from nm.1]; exact c1), (show xe_c .ne (lg_cmp (xg 0 h.2.2.1 50 ((nI k).toNatClampNeg)) (xg 0 h.2.2.1 39 15)) 0 = true by rw [show (xg 0 h.2.2.1 50 ((nI k).toNatClampNeg)) = (Int64.ofNat (NW k)) from (by rw [show ((nI k).toNatClampNeg) = k from nI_clamp (by omega)]; exact (nm.2.2 _ (by omega)).2), show (xg 0 h.2.2.1 39 15) = (Int64.ofNat w) from e15]; exact c2), trivial⟩ (fun hq => ?_)
        rw [show ((nI k) + Int32.ofInt 1) = nI (k + 1) from nI_1 _]
        exact ih (k + 1) hq (by omega) (fun j hj => by
          by_cases ek : j = k
          · rw [ek]; exact z2
          · exact ha j (by omega))
      | false =>
        have z2 : (NW k) = w := i64_inj (by omega) (by omega) (lg0.mp (xne_j c2))
        refine xq_m 25 [] [] [.int (nI k)] h [false, false] 15 hq rfl ⟨(show xe_c .ge (nI k) (xg 0 h.2.1 39 26) = false by rw [show (xg 0 h.2.1 39 26) = (nI nn) from nm.1]; exact c1), (show xe_c .ne (lg_cmp (xg 0 h.2.2.1 50 ((nI k).toNatClampNeg)) (xg 0 h.2.2.1 39 15)) 0 = false by rw [show (xg 0 h.2.2.1 50 ((nI k).toNatClampNeg)) = (Int64.ofNat (NW k)) from (by rw [show ((nI k).toNatClampNeg) = k from nI_clamp (by omega)]; exact (nm.2.2 _ (by omega)).2), show (xg 0 h.2.2.1 39 15) = (Int64.ofNat w) from e15]; exact c2), trivial⟩ (fun hq => ?_)
        have en := nmi_1 (NW := NW) (nn := nn) (i := k) (w := w) (by omega) ha z2
        exact xq_ret rfl rfl rfl ⟨rfl, Or.inr ⟨by omega, by rw [en], decide_eq_true ⟨k, by omega, z2⟩⟩⟩
set_option maxRecDepth 100000 in
set_option maxHeartbeats 4000000 in
theorem np_q {f nn w : Nat} {NW : Nat → Nat} {h : xh_H} (nm : nms h nn NW) (e15 : xg 0 h.2.2.1 39 15 = Int64.ofNat w) (hw : w < 282429536481) (hq : a_rq a_tb h) : xq f xi_X10_nameAtHand xmi_X10_nameAtHand 0 [(0, .ref 39)] [] h (nh_P h nn NW w) := by
  refine xq_n 2 [0, 1] [(0, .ref 39), (1, .int (Int32.ofInt 0))] [] h [] 4 hq rfl trivial (fun hq => ?_)
  exact np_lp nm e15 hw f 0 hq (Nat.zero_le _) (fun j hj => absurd hj (Nat.not_lt_zero j))
set_option maxRecDepth 100000 in
set_option maxHeartbeats 4000000 in
theorem bom_dl {p o sv m : Nat} {fs : List Nat} {ds : List vF} {y1 : Bool} {z45 x2 x3 : Int32} {hb : xh_H} (s4 : sv < 4096) (x2e : x2 = nI m) (m11 : m < 32) : ∀ (f i : Nat) (h : xh_H), fx (fun c _ => Nat.beq c 45) fN hb h → rr h T n mem nn NW p o fs → tkk T n p ≠ 0 → i ≤ 4096 → dfr h sv fs ds → xg 0 h.2.1 45 sv = (if sv < i then bl (sv.testBit m) else z45) → a_rq a_tb h → xq f xi_X10_beginOne xmi_X10_beginOne 235 [(0, .ref 39), (1, .int (Int32.ofInt 1)), (2, .int x2), (3, .int x3), (4, .int (nI i))] [] h (fun v h' => dfr h' sv fs ds ∧ xg 0 h'.2.1 45 sv = bl (sv.testBit m)) := by
  intro f
  induction f with
  | zero => intros; exact xq_0
  | succ f ih =>
    intro i h ge rr0 nz i6 dt w45 hq
    have hT : ∀ k, k < n → T k < 256 := fun k hk' => (rr0.1.2.2 k hk').1
    have rt := rr0.2.1
    have rb := (rkk_k (T := T) (n := n) (p := p)).1
    have kb := tkk_lt (T := T) (n := n) (p := p) hT
    have o120 := rr0.2.2.2.2.2.2.1
    have f1 := rr0.2.2.2.2.2.2.2.2.1
    have n16 := rr0.2.2.2.2.1.2.1
    have f13 := rr0.2.2.2.2.2.2.2.2.2.1
    have n6 := rr0.1.2.1
    cases c1 : xe_c .ge (nI i) 4096 with
    | true =>
      have z1 : i ≥ 4096 := nq_get (a := i) (b := 4096) (by omega) (by omega) c1
      refine xq_m 292 [0, 1, 2, 3, 4] [(0, .ref 39), (1, .int (Int32.ofInt 1)), (2, .int x2), (3, .int x3), (4, .int (nI i))] [.ref 39] h [true] 6 hq rfl ⟨c1, trivial⟩ (fun hq => ?_)
      have nz2 : tkk T n p ≠ 0 := by omega
      have le2 := tke_le nz2
      refine xq_run hq rfl rfl (go_q hq (rr0.1) (rt.2.2.2.2.2 (by omega)) le2) ?_
      rintro v2 h2 ⟨rfl, g2, t2⟩
      have hq := fx_q g2 hq
      have rb2 := (rkk_k (T := T) (n := n) (p := tke T n p)).1
      have kb2 := tkk_lt (T := T) (n := n) (p := tke T n p) hT
      refine xq_n 301 [] [] [.int (Int32.ofInt 1)] (xh_ui h2 39 29 (Int32.ofInt 0)) [] 6 hq rfl trivial (fun _ => ?_)
      have hq : a_rq a_tb (xh_ui h2 39 29 (Int32.ofInt 0)) := a_rq_ui hq
      exact xq_ret rfl rfl rfl ⟨dfr_39 s4 (dfr_go s4 (dt) g2), (gx_o (by decide)).trans ((fx_i g2 rfl).trans (lp_1 w45 (by omega)))⟩
    | false =>
      have z1 : i < 4096 := nq_gef (a := i) (b := 4096) (by omega) (by omega) c1
      cases c3 : xe_c .ne (((nI i) >>> (x2 &&& 31)) &&& (Int32.ofInt 1)) (Int32.ofInt 1) with
      | true =>
        refine xq_m 235 [0, 1, 2, 3, 4] [(0, .ref 39), (1, .int (Int32.ofInt 1)), (2, .int x2), (3, .int x3), (4, .int ((nI i) + Int32.ofInt 1))] [] (xh_ui h 45 ((nI i).toNatClampNeg) (vp_nar .boolean (Int32.ofInt 0))) [false, false, true] 22 hq rfl ⟨c1, (by decide), c3, trivial⟩ (fun _ => ?_)
        rw [show (vp_nar .boolean (Int32.ofInt 0)) = Int32.ofInt 0 from rfl]
        rw [show ((nI i).toNatClampNeg) = i from nI_clamp (by omega)]
        rw [show ((nI i) + Int32.ofInt 1) = nI (i + 1) from nI_1 _]
        have hq : a_rq a_tb (xh_ui h 45 i (Int32.ofInt 0)) := a_rq_ui hq
        exact ih (i + 1) _ (fx_ui ge rfl) ⟨rtp_f (S := rS) (L := gL) rr0.1 (fx_ui (fx_0) rfl) rfl (fun _ => rfl), rtk_ui (rt) rfl, (gx_o (by decide)).trans (rr0.2.2.1), rr0.2.2.2.1, nms_f (S := rS) (L := gL) rr0.2.2.2.2.1 (fx_ui (fx_0) rfl) rfl (fun _ => rfl), (gx_o (by decide)).trans (rr0.2.2.2.2.2.1), rr0.2.2.2.2.2.2.1, (gx_o (by decide)).trans (rr0.2.2.2.2.2.2.2.1), rr0.2.2.2.2.2.2.2.2.1, rr0.2.2.2.2.2.2.2.2.2.1, frs_c (fun k hk' => gx_o (by decide)) rr0.2.2.2.2.2.2.2.2.2.2.1, (gx_o (by decide)).trans (rr0.2.2.2.2.2.2.2.2.2.2.2)⟩ nz (by omega) (dfr_45 s4 (dt)) (lp_w0 w45 (fun e => by rw [← e]; have := c3; rw [x2e, nI_b0 (by omega) m11] at this; cases hb1 : i.testBit m <;> rw [hb1] at this <;> first | rfl | exact absurd this (by decide))) hq
      | false =>
        refine xq_m 235 [0, 1, 2, 3, 4] [(0, .ref 39), (1, .int (Int32.ofInt 1)), (2, .int x2), (3, .int x3), (4, .int ((nI i) + Int32.ofInt 1))] [] (xh_ui h 45 ((nI i).toNatClampNeg) (vp_nar .boolean (Int32.ofInt 1))) [false, false, false] 22 hq rfl ⟨c1, (by decide), c3, trivial⟩ (fun _ => ?_)
        rw [show (vp_nar .boolean (Int32.ofInt 1)) = Int32.ofInt 1 from rfl]
        rw [show ((nI i).toNatClampNeg) = i from nI_clamp (by omega)]
        rw [show ((nI i) + Int32.ofInt 1) = nI (i + 1) from nI_1 _]
        have hq : a_rq a_tb (xh_ui h 45 i (Int32.ofInt 1)) := a_rq_ui hq
        exact ih (i + 1) _ (fx_ui ge rfl) ⟨rtp_f (S := rS) (L := gL) rr0.1 (fx_ui (fx_0) rfl) rfl (fun _ => rfl), rtk_ui (rt) rfl, (gx_o (by decide)).trans (rr0.2.2.1), rr0.2.2.2.1, nms_f (S := rS) (L := gL) rr0.2.2.2.2.1 (fx_ui (fx_0) rfl) rfl (fun _ => rfl), (gx_o (by decide)).trans (rr0.2.2.2.2.2.1), rr0.2.2.2.2.2.2.1, (gx_o (by decide)).trans (rr0.2.2.2.2.2.2.2.1), rr0.2.2.2.2.2.2.2.2.1, rr0.2.2.2.2.2.2.2.2.2.1, frs_c (fun k hk' => gx_o (by decide)) rr0.2.2.2.2.2.2.2.2.2.2.1, (gx_o (by decide)).trans (rr0.2.2.2.2.2.2.2.2.2.2.2)⟩ nz (by omega) (dfr_45 s4 (dt)) (lp_w0 w45 (fun e => by rw [← e]; have := c3; rw [x2e, nI_b0 (by omega) m11] at this; cases hb1 : i.testBit m <;> rw [hb1] at this <;> first | rfl | exact absurd this (by decide))) hq
set_option maxRecDepth 100000 in
set_option maxHeartbeats 4000000 in
theorem bon_dl {p o sv m : Nat} {fs : List Nat} {ds : List vF} {y1 : Bool} {z45 x2 x3 : Int32} {hb : xh_H} (s4 : sv < 4096) (x3e : x3 = nI m) (m16 : m < 16) (dn : xg 0 hb.2.1 43 (4096 * m + sv) = bl y1) : ∀ (f i : Nat) (h : xh_H), fx (fun c _ => Nat.beq c 45) fN hb h → rr h T n mem nn NW p o fs → tkk T n p ≠ 0 → i ≤ 4096 → dfr h sv fs ds → xg 0 h.2.1 45 sv = (if sv < i then bl (y1) else z45) → a_rq a_tb h → xq f xi_X10_beginOne xmi_X10_beginOne 235 [(0, .ref 39), (1, .int (Int32.ofInt 0)), (2, .int x2), (3, .int x3), (4, .int (nI i))] [] h (fun v h' => dfr h' sv fs ds ∧ xg 0 h'.2.1 45 sv = bl (y1)) := by
  intro f
  induction f with
  | zero => intros; exact xq_0
  | succ f ih =>
    intro i h ge rr0 nz i6 dt w45 hq
    have hT : ∀ k, k < n → T k < 256 := fun k hk' => (rr0.1.2.2 k hk').1
    have rt := rr0.2.1
    have rb := (rkk_k (T := T) (n := n) (p := p)).1
    have kb := tkk_lt (T := T) (n := n) (p := p) hT
    have o120 := rr0.2.2.2.2.2.2.1
    have f1 := rr0.2.2.2.2.2.2.2.2.1
    have n16 := rr0.2.2.2.2.1.2.1
    have f13 := rr0.2.2.2.2.2.2.2.2.2.1
    have n6 := rr0.1.2.1
    cases c1 : xe_c .ge (nI i) 4096 with
    | true =>
      have z1 : i ≥ 4096 := nq_get (a := i) (b := 4096) (by omega) (by omega) c1
      refine xq_m 292 [0, 1, 2, 3, 4] [(0, .ref 39), (1, .int (Int32.ofInt 0)), (2, .int x2), (3, .int x3), (4, .int (nI i))] [.ref 39] h [true] 6 hq rfl ⟨c1, trivial⟩ (fun hq => ?_)
      have nz2 : tkk T n p ≠ 0 := by omega
      have le2 := tke_le nz2
      refine xq_run hq rfl rfl (go_q hq (rr0.1) (rt.2.2.2.2.2 (by omega)) le2) ?_
      rintro v2 h2 ⟨rfl, g2, t2⟩
      have hq := fx_q g2 hq
      have rb2 := (rkk_k (T := T) (n := n) (p := tke T n p)).1
      have kb2 := tkk_lt (T := T) (n := n) (p := tke T n p) hT
      refine xq_n 301 [] [] [.int (Int32.ofInt 1)] (xh_ui h2 39 29 (Int32.ofInt 0)) [] 6 hq rfl trivial (fun _ => ?_)
      have hq : a_rq a_tb (xh_ui h2 39 29 (Int32.ofInt 0)) := a_rq_ui hq
      exact xq_ret rfl rfl rfl ⟨dfr_39 s4 (dfr_go s4 (dt) g2), (gx_o (by decide)).trans ((fx_i g2 rfl).trans (lp_1 w45 (by omega)))⟩
    | false =>
      have z1 : i < 4096 := nq_gef (a := i) (b := 4096) (by omega) (by omega) c1
      refine xq_m 235 [0, 1, 2, 3, 4] [(0, .ref 39), (1, .int (Int32.ofInt 0)), (2, .int x2), (3, .int x3), (4, .int ((nI i) + Int32.ofInt 1))] [] (xh_ui h 45 ((nI i).toNatClampNeg) (vp_nar .boolean (xg 0 h.2.1 43 (((4096 * x3) + (nI i)).toNatClampNeg)))) [false, true] 21 hq rfl ⟨c1, (by decide), trivial⟩ (fun _ => ?_)
      rw [show (xg 0 h.2.1 43 (((4096 * x3) + (nI i)).toNatClampNeg)) = xg 0 h.2.1 43 (4096 * m + i) from (by rw [show ((4096 * x3) + (nI i)) = nI (4096 * m + i) from (by rw [x3e]; exact idx_a), show ((nI (4096 * m + i)).toNatClampNeg) = (4096 * m + i) from nI_clamp (by omega)])]
      rw [show ((nI i).toNatClampNeg) = i from nI_clamp (by omega)]
      rw [show ((nI i) + Int32.ofInt 1) = nI (i + 1) from nI_1 _]
      have hq : a_rq a_tb (xh_ui h 45 i (vp_nar .boolean (xg 0 h.2.1 43 (4096 * m + i)))) := a_rq_ui hq
      exact ih (i + 1) _ (fx_ui ge rfl) ⟨rtp_f (S := rS) (L := gL) rr0.1 (fx_ui (fx_0) rfl) rfl (fun _ => rfl), rtk_ui (rt) rfl, (gx_o (by decide)).trans (rr0.2.2.1), rr0.2.2.2.1, nms_f (S := rS) (L := gL) rr0.2.2.2.2.1 (fx_ui (fx_0) rfl) rfl (fun _ => rfl), (gx_o (by decide)).trans (rr0.2.2.2.2.2.1), rr0.2.2.2.2.2.2.1, (gx_o (by decide)).trans (rr0.2.2.2.2.2.2.2.1), rr0.2.2.2.2.2.2.2.2.1, rr0.2.2.2.2.2.2.2.2.2.1, frs_c (fun k hk' => gx_o (by decide)) rr0.2.2.2.2.2.2.2.2.2.2.1, (gx_o (by decide)).trans (rr0.2.2.2.2.2.2.2.2.2.2.2)⟩ nz (by omega) (dfr_45 s4 (dt)) (lp_w0 w45 (fun e => by rw [e, (fx_i ge rfl).trans dn]; exact bl_n)) hq
set_option maxRecDepth 100000 in
set_option maxHeartbeats 4000000 in
theorem bo_d {f p o : Nat} {fs : List Nat} {h : xh_H} {sv : Nat} {ds : List vF} {one : Bool} (s4 : sv < 4096) (dt : dfr h sv fs ds) (d45 : xg 0 h.2.1 45 sv = bl one) {NV : Nat → Bool} (dn : dnm h sv nn NV) (rr0 : rr h T n mem nn NW p o fs) (hq : a_rq a_tb h) : xq f xi_X10_beginOne xmi_X10_beginOne 0 [(0, .ref 39)] [] h (fun v h' => dQ h' sv (bo T n mem nn NW p o fs) (vbo T n nn NW sv NV p ds one)) := by
  have hT : ∀ k, k < n → T k < 256 := fun k hk' => (rr0.1.2.2 k hk').1
  have rt := rr0.2.1
  have rb := (rkk_k (T := T) (n := n) (p := p)).1
  have kb := tkk_lt (T := T) (n := n) (p := p) hT
  have o120 := rr0.2.2.2.2.2.2.1
  have f1 := rr0.2.2.2.2.2.2.2.2.1
  have n16 := rr0.2.2.2.2.1.2.1
  have f13 := rr0.2.2.2.2.2.2.2.2.2.1
  have n6 := rr0.1.2.1
  have t9 : tkn T n p ≤ 999 := vf_999
  have mm := rr0.2.2.2.1
  cases c1 : xe_c .ne (nI (rkk T n p)) (Int32.ofInt 2) with
  | true =>
    have z1 : (rkk T n p) ≠ 2 := nq_net (a := (rkk T n p)) (b := 2) (by omega) (by omega) c1
    have yc1 := mt (rk2 (T := T) (n := n) (p := p)).mpr z1
    cases c2 : xe_c .eq (nI (rkk T n p)) (Int32.ofInt 3) with
    | true =>
      have z2 : (rkk T n p) = 3 := nq_eqt (a := (rkk T n p)) (b := 3) (by omega) (by omega) c2
      have yc2 := (rk3 (T := T) (n := n) (p := p)).mp z2
      cases c3 : xe_c .ne (nI (tkn T n p)) 0 with
      | true =>
        have z3 : (tkn T n p) ≠ 0 := nq_net (a := (tkn T n p)) (b := 0) (by omega) (by omega) c3
        refine xq_n 102 [0, 1] [(0, .ref 39), (1, .int (Int32.ofInt 0))] [.ref 39] h [true, true, false, true, true] 22 hq rfl ⟨(show xe_c .ne (xg 0 h.2.1 39 9) (Int32.ofInt 2) = true by rw [show (xg 0 h.2.1 39 9) = (nI (rkk T n p)) from rt.2.1]; exact c1), (show xe_c .eq (xg 0 h.2.1 39 9) (Int32.ofInt 3) = true by rw [show (xg 0 h.2.1 39 9) = (nI (rkk T n p)) from rt.2.1]; exact c2), (show xe_c .ne (xg 0 h.2.1 39 9) (Int32.ofInt 3) = false by rw [show (xg 0 h.2.1 39 9) = (nI (rkk T n p)) from rt.2.1, z2]; rfl), (show xe_c .ne (xg 0 h.2.1 39 10) 0 = true by rw [show (xg 0 h.2.1 39 10) = (nI (tkn T n p)) from rt.2.2.2.1 (by omega)]; exact c3), (by decide), trivial⟩ (fun hq => ?_)
        refine xq_run hq rfl rfl (rnm_q hT (rt) hq) ?_
        rintro v4 h_v4 ⟨rfl, rfl⟩
        cases b5 : (nmt T n p) with
        | true =>
          have db5 := of_decide_eq_true b5
          omega
        | false =>
          have db5 := of_decide_eq_false b5
          cases c6 : xe_c .ne (nI o) 120 with
          | true =>
            have z6 : o ≠ 120 := nq_net (a := o) (b := 120) (by omega) (by omega) c6
            refine xq_n 140 [0, 1] [(0, .ref 39), (1, .int (Int32.ofInt 0))] [.int 40, .ref 39] h [true, true] 9 hq rfl ⟨rfl, (show xe_c .ne (xg 0 h.2.1 39 27) 120 = true by rw [show (xg 0 h.2.1 39 27) = (nI o) from rr0.2.2.2.2.2.1]; exact c6), trivial⟩ (fun hq => ?_)
            refine xq_run hq rfl rfl (rsg_q (c := 40) (by decide) (by decide) hT (rt) hq) ?_
            rintro v7 h_v7 ⟨rfl, rfl⟩
            cases b8 : (decide (tkk T n p = 40)) with
            | true =>
              have db8 := of_decide_eq_true b8
              omega
            | false =>
              have db8 := of_decide_eq_false b8
              refine xq_n 185 [0, 1, 2] [(0, .ref 39), (1, .int (Int32.ofInt 0)), (2, .int (xg 0 (xh_ui h 39 27 ((xg 0 h.2.1 39 27) + (Int32.ofInt 1))).2.1 39 10))] [.ref 39] (xh_ui h 39 27 ((xg 0 h.2.1 39 27) + (Int32.ofInt 1))) [true, false] 17 hq rfl ⟨rfl, (show xe_c .ne (xg 0 (xh_ui h 39 27 ((xg 0 h.2.1 39 27) + (Int32.ofInt 1))).2.1 39 9) (Int32.ofInt 3) = false by rw [show (xg 0 (xh_ui h 39 27 ((xg 0 h.2.1 39 27) + (Int32.ofInt 1))).2.1 39 9) = (nI (rkk T n p)) from (gx_k (by decide)).trans (rt.2.1), z2]; rfl), trivial⟩ (fun _ => ?_)
              rw [show (xg 0 (xh_ui h 39 27 ((xg 0 h.2.1 39 27) + (Int32.ofInt 1))).2.1 39 10) = (nI (tkn T n p)) from (gx_k (by decide)).trans (rt.2.2.2.1 (by omega))]
              rw [show (xg 0 h.2.1 39 27) = (nI o) from rr0.2.2.2.2.2.1]
              rw [show ((nI o) + (Int32.ofInt 1)) = nI (o + 1) from nI_1 _]
              have hq : a_rq a_tb (xh_ui h 39 27 (nI (o + 1))) := a_rq_ui hq
              have nz9 : tkk T n p ≠ 0 := by omega
              have le9 := tke_le nz9
              refine xq_run hq rfl rfl (go_q hq (rtp_f (S := rS) (L := gL) rr0.1 (fx_ui (fx_0) rfl) rfl (fun _ => rfl)) ((gx_k (by decide)).trans (rt.2.2.2.2.2 (by omega))) le9) ?_
              rintro v9 h9 ⟨rfl, g9, t9⟩
              have hq := fx_q g9 hq
              have rb9 := (rkk_k (T := T) (n := n) (p := tke T n p)).1
              have kb9 := tkk_lt (T := T) (n := n) (p := tke T n p) hT
              refine xq_n 190 [0, 1, 2] [(0, .ref 39), (1, .int (Int32.ofInt 0)), (2, .int (nI (tkn T n p)))] [.int (nI (tkn T n p)), .ref 39] h9 [] 4 hq rfl trivial (fun hq => ?_)
              have er : bo T n mem nn NW p o fs = bls T n (tke T n p) (o + 1) fs := by
                unfold bo
                repeat (first | rw [if_pos (by omega)] | rw [if_neg (by omega)] | rw [if_pos b5] | rw [if_neg (by rw [b5]; decide)] | rw [if_pos b8] | rw [if_neg (by rw [b8]; decide)] | rw [if_pos (show lone T n p = true from decide_eq_true (by omega))] | rw [if_neg (show ¬ lone T n p = true from fun e => by have := of_decide_eq_true e; omega)])
                try rfl
              have ev : vbo T n nn NW sv NV p ds one = (vL (nI (tkn T n p)) :: ds, one) := by unfold vbo; rw [if_pos (by omega)]
              refine xq_run hq rfl rfl (xq_and (bls_q ⟨rtp_f (S := rS) (L := gL) rr0.1 (fx_t (fx_ui (fx_0) rfl) (fx_w g9 (fun _ _ => gS_r) (fun _ _ z => z))) rfl (fun _ => rfl), t9, (fx_i g9 rfl).trans ((gx_k (by decide)).trans (rr0.2.2.1)), rr0.2.2.2.1, nms_f (S := rS) (L := gL) rr0.2.2.2.2.1 (fx_t (fx_ui (fx_0) rfl) (fx_w g9 (fun _ _ => gS_r) (fun _ _ z => z))) rfl (fun _ => rfl), (fx_i g9 rfl).trans (gx_s), by omega, (fx_i g9 rfl).trans ((gx_k (by decide)).trans (rr0.2.2.2.2.2.2.2.1)), rr0.2.2.2.2.2.2.2.2.1, rr0.2.2.2.2.2.2.2.2.2.1, frs_c (fun k hk' => (fx_i g9 rfl).trans (gx_o (by decide))) rr0.2.2.2.2.2.2.2.2.2.2.1, (fx_i g9 rfl).trans ((gx_k (by decide)).trans (rr0.2.2.2.2.2.2.2.2.2.2.2))⟩ hq) (bls_d (a := (tkn T n p)) s4 (dfr_go s4 (dfr_39 s4 (dt)) g9) ((fx_i g9 rfl).trans ((gx_o (by decide)).trans (d45))) ⟨rtp_f (S := rS) (L := gL) rr0.1 (fx_t (fx_ui (fx_0) rfl) (fx_w g9 (fun _ _ => gS_r) (fun _ _ z => z))) rfl (fun _ => rfl), t9, (fx_i g9 rfl).trans ((gx_k (by decide)).trans (rr0.2.2.1)), rr0.2.2.2.1, nms_f (S := rS) (L := gL) rr0.2.2.2.2.1 (fx_t (fx_ui (fx_0) rfl) (fx_w g9 (fun _ _ => gS_r) (fun _ _ z => z))) rfl (fun _ => rfl), (fx_i g9 rfl).trans (gx_s), by omega, (fx_i g9 rfl).trans ((gx_k (by decide)).trans (rr0.2.2.2.2.2.2.2.1)), rr0.2.2.2.2.2.2.2.2.1, rr0.2.2.2.2.2.2.2.2.2.1, frs_c (fun k hk' => (fx_i g9 rfl).trans (gx_o (by decide))) rr0.2.2.2.2.2.2.2.2.2.2.1, (fx_i g9 rfl).trans ((gx_k (by decide)).trans (rr0.2.2.2.2.2.2.2.2.2.2.2))⟩ hq)) ?_
              rintro v10 h10 ⟨⟨g10, l10, q10⟩, dq10⟩
              have hq := fx_q g10 hq
              rw [er, ev]
              have hv10 : ∃ x, v10 = some (.int x) := by
                cases hr10 : (bls T n (tke T n p) (o + 1) fs) with
                | inl s => obtain ⟨a1, a2, a3, a4⟩ := s; exact ⟨1, (l10 _ _ _ _ hr10).1⟩
                | inr e => obtain ⟨a1, a2⟩ := e; exact ⟨0, (q10 _ _ hr10).1⟩
              obtain ⟨x10, rfl⟩ := hv10
              exact xq_ret rfl rfl rfl dq10
          | false =>
            have z6 : o = 120 := nq_nef (a := o) (b := 120) (by omega) (by omega) c6
            refine xq_n 133 [0, 1] [(0, .ref 39), (1, .int (Int32.ofInt 0))] [.int (Int32.ofInt 4), .ref 39] h [true, false] 9 hq rfl ⟨rfl, (show xe_c .ne (xg 0 h.2.1 39 27) 120 = false by rw [show (xg 0 h.2.1 39 27) = (nI o) from rr0.2.2.2.2.2.1]; exact c6), trivial⟩ (fun hq => ?_)
            refine xq_run hq rfl rfl (bad_q (k := 4) hT (rt) hq) ?_
            rintro v11 h11 ⟨rfl, g11, f11, l11⟩
            have hq := fx_q g11 hq
            rw [if_neg (show ¬ rkk T n p = 1 from fun e => by have e1 := rk1.mp e; omega)] at f11
            have er : bo T n mem nn NW p o fs = .inr (4, tks T n p) := by
              unfold bo
              repeat (first | rw [if_pos (by omega)] | rw [if_neg (by omega)] | rw [if_pos b5] | rw [if_neg (by rw [b5]; decide)] | rw [if_pos (show lone T n p = true from decide_eq_true (by omega))] | rw [if_neg (show ¬ lone T n p = true from fun e => by have := of_decide_eq_true e; omega)])
              try rfl
            exact xq_ret rfl rfl rfl (dQ_r er)
      | false =>
        have z3 : (tkn T n p) = 0 := nq_nef (a := (tkn T n p)) (b := 0) (by omega) (by omega) c3
        refine xq_n 73 [0, 1] [(0, .ref 39), (1, .int (Int32.ofInt 0))] [.int (Int32.ofInt 2), .ref 39] h [true, true, false, false] 21 hq rfl ⟨(show xe_c .ne (xg 0 h.2.1 39 9) (Int32.ofInt 2) = true by rw [show (xg 0 h.2.1 39 9) = (nI (rkk T n p)) from rt.2.1]; exact c1), (show xe_c .eq (xg 0 h.2.1 39 9) (Int32.ofInt 3) = true by rw [show (xg 0 h.2.1 39 9) = (nI (rkk T n p)) from rt.2.1]; exact c2), (show xe_c .ne (xg 0 h.2.1 39 9) (Int32.ofInt 3) = false by rw [show (xg 0 h.2.1 39 9) = (nI (rkk T n p)) from rt.2.1, z2]; rfl), (show xe_c .ne (xg 0 h.2.1 39 10) 0 = false by rw [show (xg 0 h.2.1 39 10) = (nI (tkn T n p)) from rt.2.2.2.1 (by omega)]; exact c3), trivial⟩ (fun hq => ?_)
        refine xq_run hq rfl rfl (bad_q (k := 2) hT (rt) hq) ?_
        rintro v12 h12 ⟨rfl, g12, f12, l12⟩
        have hq := fx_q g12 hq
        rw [if_neg (show ¬ rkk T n p = 1 from fun e => by have e1 := rk1.mp e; omega)] at f12
        have er : bo T n mem nn NW p o fs = .inr (2, tks T n p) := by
          unfold bo
          repeat (first | rw [if_pos (by omega)] | rw [if_neg (by omega)] | rw [if_pos (show lone T n p = true from decide_eq_true (by omega))] | rw [if_neg (show ¬ lone T n p = true from fun e => by have := of_decide_eq_true e; omega)])
          try rfl
        exact xq_ret rfl rfl rfl (dQ_r er)
    | false =>
      have z2 : (rkk T n p) ≠ 3 := nq_eqf (a := (rkk T n p)) (b := 3) (by omega) (by omega) c2
      have yc2 := mt (rk3 (T := T) (n := n) (p := p)).mpr z2
      refine xq_n 33 [0, 1] [(0, .ref 39), (1, .int (Int32.ofInt 0))] [.int 40, .ref 39] h [true, false] 14 hq rfl ⟨(show xe_c .ne (xg 0 h.2.1 39 9) (Int32.ofInt 2) = true by rw [show (xg 0 h.2.1 39 9) = (nI (rkk T n p)) from rt.2.1]; exact c1), (show xe_c .eq (xg 0 h.2.1 39 9) (Int32.ofInt 3) = false by rw [show (xg 0 h.2.1 39 9) = (nI (rkk T n p)) from rt.2.1]; exact c2), trivial⟩ (fun hq => ?_)
      refine xq_run hq rfl rfl (rsg_q (c := 40) (by decide) (by decide) hT (rt) hq) ?_
      rintro v13 h_v13 ⟨rfl, rfl⟩
      cases b14 : (decide (tkk T n p = 40)) with
      | true =>
        have db14 := of_decide_eq_true b14
        refine xq_n 102 [0, 1] [(0, .ref 39), (1, .int (Int32.ofInt 0))] [.ref 39] h [true, true, true] 10 hq rfl ⟨rfl, (show xe_c .ne (xg 0 h.2.1 39 9) (Int32.ofInt 3) = true by rw [show (xg 0 h.2.1 39 9) = (nI (rkk T n p)) from rt.2.1, xc_ne, c2]; rfl), (by decide), trivial⟩ (fun hq => ?_)
        refine xq_run hq rfl rfl (rnm_q hT (rt) hq) ?_
        rintro v15 h_v15 ⟨rfl, rfl⟩
        cases b16 : (nmt T n p) with
        | true =>
          have db16 := of_decide_eq_true b16
          omega
        | false =>
          have db16 := of_decide_eq_false b16
          cases c17 : xe_c .ne (nI o) 120 with
          | true =>
            have z17 : o ≠ 120 := nq_net (a := o) (b := 120) (by omega) (by omega) c17
            refine xq_n 140 [0, 1] [(0, .ref 39), (1, .int (Int32.ofInt 0))] [.int 40, .ref 39] h [true, true] 9 hq rfl ⟨rfl, (show xe_c .ne (xg 0 h.2.1 39 27) 120 = true by rw [show (xg 0 h.2.1 39 27) = (nI o) from rr0.2.2.2.2.2.1]; exact c17), trivial⟩ (fun hq => ?_)
            refine xq_run hq rfl rfl (rsg_q (c := 40) (by decide) (by decide) hT (rt) hq) ?_
            rintro v18 h_v18 ⟨rfl, rfl⟩
            cases c19 : xe_c .ne (nI (fs.length - 1)) 12 with
            | true =>
              have z19 : (fs.length - 1) ≠ 12 := nq_net (a := (fs.length - 1)) (b := 12) (by omega) (by omega) c19
              cases c20 : xe_c .ne (nI (rkk T n p)) (Int32.ofInt 4) with
              | true =>
                have z20 : (rkk T n p) ≠ 4 := nq_net (a := (rkk T n p)) (b := 4) (by omega) (by omega) c20
                have yc20 := mt (rk4 (T := T) (n := n) (p := p)).mpr z20
                omega
              | false =>
                have z20 : (rkk T n p) = 4 := nq_nef (a := (rkk T n p)) (b := 4) (by omega) (by omega) c20
                have yc20 := (rk4 (T := T) (n := n) (p := p)).mp z20
                refine xq_n 214 [0, 1] [(0, .ref 39), (1, .int (Int32.ofInt 0))] [.int (Int32.ofInt 1), .ref 39] (xh_ui (xh_ui h 39 27 ((xg 0 h.2.1 39 27) + (Int32.ofInt 1))) 39 28 ((xg 0 (xh_ui h 39 27 ((xg 0 h.2.1 39 27) + (Int32.ofInt 1))).2.1 39 28) + (Int32.ofInt 1))) [false, true, true, false] 29 hq rfl ⟨(show xe_c .eq (bl (decide (tkk T n p = 40))) 0 = false by rw [b14]; rfl), (show xe_c .ne (xg 0 h.2.1 39 28) 12 = true by rw [show (xg 0 h.2.1 39 28) = (nI (fs.length - 1)) from rr0.2.2.2.2.2.2.2.1]; exact c19), (show xe_c .ne (xg 0 (xh_ui h 39 27 ((xg 0 h.2.1 39 27) + (Int32.ofInt 1))).2.1 39 9) (Int32.ofInt 3) = true by rw [show (xg 0 (xh_ui h 39 27 ((xg 0 h.2.1 39 27) + (Int32.ofInt 1))).2.1 39 9) = (nI (rkk T n p)) from (gx_k (by decide)).trans (rt.2.1), xc_ne, c2]; rfl), (show xe_c .ne (xg 0 (xh_ui h 39 27 ((xg 0 h.2.1 39 27) + (Int32.ofInt 1))).2.1 39 9) (Int32.ofInt 4) = false by rw [show (xg 0 (xh_ui h 39 27 ((xg 0 h.2.1 39 27) + (Int32.ofInt 1))).2.1 39 9) = (nI (rkk T n p)) from (gx_k (by decide)).trans (rt.2.1)]; exact c20), trivial⟩ (fun _ => ?_)
                rw [show (xg 0 (xh_ui h 39 27 ((xg 0 h.2.1 39 27) + (Int32.ofInt 1))).2.1 39 28) = (nI (fs.length - 1)) from (gx_k (by decide)).trans (rr0.2.2.2.2.2.2.2.1)]
                rw [show (xg 0 h.2.1 39 27) = (nI o) from rr0.2.2.2.2.2.1]
                rw [show ((nI o) + (Int32.ofInt 1)) = nI (o + 1) from nI_1 _]
                rw [show ((nI (fs.length - 1)) + (Int32.ofInt 1)) = nI (fs.length - 1 + 1) from nI_1 _]
                rw [show (nI (fs.length - 1 + 1)) = nI fs.length from (by rw [show fs.length - 1 + 1 = fs.length by omega])]
                have hq : a_rq a_tb (xh_ui (xh_ui h 39 27 (nI (o + 1))) 39 28 (nI fs.length)) := a_rq_ui (a_rq_ui hq)
                have nz21 : tkk T n p ≠ 0 := by omega
                refine xq_run hq rfl rfl (xq_and (opr_q (ty := 1) (t := fs.length) (by omega) (tke_le nz21) hq (rtp_f (S := rS) (L := gL) rr0.1 (fx_ui (fx_ui (fx_0) rfl) rfl) rfl (fun _ => rfl)) ((gx_k (by decide)).trans ((gx_k (by decide)).trans (rt.2.2.2.2.2 (by omega)))) (gx_s)) (opr_d (t := fs.length) s4 (by omega) (tke_le nz21) hq (rtp_f (S := rS) (L := gL) rr0.1 (fx_ui (fx_ui (fx_0) rfl) rfl) rfl (fun _ => rfl)) ((gx_k (by decide)).trans ((gx_k (by decide)).trans (rt.2.2.2.2.2 (by omega)))) (gx_s))) ?_
                rintro v21 h21 ⟨⟨rfl, g21, t21, y21, a21⟩, dg21, k121, k221⟩
                have hq := fx_q g21 hq
                refine xq_n 218 [] [] [.int (Int32.ofInt 1)] h21 [] 3 hq rfl trivial (fun hq => ?_)
                have er : bo T n mem nn NW p o fs = .inl (1, tke T n p, (o + 1), 1 :: fs) := by
                  unfold bo
                  repeat (first | rw [if_pos (by omega)] | rw [if_neg (by omega)] | rw [if_pos b14] | rw [if_neg (by rw [b14]; decide)] | rw [if_pos b16] | rw [if_neg (by rw [b16]; decide)] | rw [if_pos (show lone T n p = true from decide_eq_true (by omega))] | rw [if_neg (show ¬ lone T n p = true from fun e => by have := of_decide_eq_true e; omega)])
                  try rfl
                rw [show vbo T n nn NW sv NV p ds one = (vR :: ds, one) from by unfold vbo; rw [if_neg (by omega), if_pos (by omega)]]
                exact xq_ret rfl rfl rfl (dQ_l er ⟨fun z => absurd z (by decide), fun _ => ⟨k121, k221⟩, dfr_op s4 (dfr_39 s4 (dfr_39 s4 (dt))) dg21⟩ ((fx_i dg21 rfl).trans ((gx_o (by decide)).trans ((gx_o (by decide)).trans (d45)))))
            | false =>
              have z19 : (fs.length - 1) = 12 := nq_nef (a := (fs.length - 1)) (b := 12) (by omega) (by omega) c19
              refine xq_n 157 [0, 1] [(0, .ref 39), (1, .int (Int32.ofInt 0))] [.int (Int32.ofInt 4), .ref 39] h [false, false] 9 hq rfl ⟨(show xe_c .eq (bl (decide (tkk T n p = 40))) 0 = false by rw [b14]; rfl), (show xe_c .ne (xg 0 h.2.1 39 28) 12 = false by rw [show (xg 0 h.2.1 39 28) = (nI (fs.length - 1)) from rr0.2.2.2.2.2.2.2.1]; exact c19), trivial⟩ (fun hq => ?_)
              refine xq_run hq rfl rfl (bad_q (k := 4) hT (rt) hq) ?_
              rintro v22 h22 ⟨rfl, g22, f22, l22⟩
              have hq := fx_q g22 hq
              rw [if_neg (show ¬ rkk T n p = 1 from fun e => by have e1 := rk1.mp e; omega)] at f22
              have er : bo T n mem nn NW p o fs = .inr (4, tks T n p) := by
                unfold bo
                repeat (first | rw [if_pos (by omega)] | rw [if_neg (by omega)] | rw [if_pos b14] | rw [if_neg (by rw [b14]; decide)] | rw [if_pos b16] | rw [if_neg (by rw [b16]; decide)] | rw [if_pos (show lone T n p = true from decide_eq_true (by omega))] | rw [if_neg (show ¬ lone T n p = true from fun e => by have := of_decide_eq_true e; omega)])
                try rfl
              exact xq_ret rfl rfl rfl (dQ_r er)
          | false =>
            have z17 : o = 120 := nq_nef (a := o) (b := 120) (by omega) (by omega) c17
            refine xq_n 133 [0, 1] [(0, .ref 39), (1, .int (Int32.ofInt 0))] [.int (Int32.ofInt 4), .ref 39] h [true, false] 9 hq rfl ⟨rfl, (show xe_c .ne (xg 0 h.2.1 39 27) 120 = false by rw [show (xg 0 h.2.1 39 27) = (nI o) from rr0.2.2.2.2.2.1]; exact c17), trivial⟩ (fun hq => ?_)
            refine xq_run hq rfl rfl (bad_q (k := 4) hT (rt) hq) ?_
            rintro v23 h23 ⟨rfl, g23, f23, l23⟩
            have hq := fx_q g23 hq
            rw [if_neg (show ¬ rkk T n p = 1 from fun e => by have e1 := rk1.mp e; omega)] at f23
            have er : bo T n mem nn NW p o fs = .inr (4, tks T n p) := by
              unfold bo
              repeat (first | rw [if_pos (by omega)] | rw [if_neg (by omega)] | rw [if_pos b14] | rw [if_neg (by rw [b14]; decide)] | rw [if_pos b16] | rw [if_neg (by rw [b16]; decide)] | rw [if_pos (show lone T n p = true from decide_eq_true (by omega))] | rw [if_neg (show ¬ lone T n p = true from fun e => by have := of_decide_eq_true e; omega)])
              try rfl
            exact xq_ret rfl rfl rfl (dQ_r er)
      | false =>
        have db14 := of_decide_eq_false b14
        refine xq_n 44 [0, 1] [(0, .ref 39), (1, .int (Int32.ofInt 0))] [.ref 39] h [false, false] 6 hq rfl ⟨rfl, (by decide), trivial⟩ (fun hq => ?_)
        refine xq_run hq rfl rfl (rnm_q hT (rt) hq) ?_
        rintro v24 h_v24 ⟨rfl, rfl⟩
        cases b25 : (nmt T n p) with
        | true =>
          have db25 := of_decide_eq_true b25
          omega
        | false =>
          have db25 := of_decide_eq_false b25
          refine xq_n 52 [0, 1] [(0, .ref 39), (1, .int (Int32.ofInt 0))] [.int (Int32.ofInt 1), .ref 39] h [false] 5 hq rfl ⟨rfl, trivial⟩ (fun hq => ?_)
          refine xq_run hq rfl rfl (bad_q (k := 1) hT (rt) hq) ?_
          rintro v26 h26 ⟨rfl, g26, f26, l26⟩
          have hq := fx_q g26 hq
          rw [show (if rkk T n p = 1 then 1 else 1) = 1 by split <;> rfl] at f26
          have er : bo T n mem nn NW p o fs = .inr (1, tks T n p) := by
            unfold bo
            repeat (first | rw [if_pos (by omega)] | rw [if_neg (by omega)] | rw [if_pos b14] | rw [if_neg (by rw [b14]; decide)] | rw [if_pos b25] | rw [if_neg (by rw [b25]; decide)] | rw [if_pos (show lone T n p = true from decide_eq_true (by omega))] | rw [if_neg (show ¬ lone T n p = true from fun e => by have := of_decide_eq_true e; omega)])
            try rfl
          exact xq_ret rfl rfl rfl (dQ_r er)
  | false =>
    have z1 : (rkk T n p) = 2 := nq_nef (a := (rkk T n p)) (b := 2) (by omega) (by omega) c1
    have yc1 := (rk2 (T := T) (n := n) (p := p)).mp z1
    have wlt := tkw_lt (T := T) (n := n) (p := p) yc1
    have tk2' := (tk2 (T := T) (n := n) (p := p) yc1).2.1
    cases c27 : xe_c .ne (nI (tke T n p - tks T n p)) (Int32.ofInt 1) with
    | true =>
      have z27 : (tke T n p - tks T n p) ≠ 1 := nq_net (a := (tke T n p - tks T n p)) (b := 1) (by omega) (by omega) c27
      refine xq_n 33 [0, 1] [(0, .ref 39), (1, .int (Int32.ofInt 0))] [.int 40, .ref 39] h [false, true, false] 18 hq rfl ⟨(show xe_c .ne (xg 0 h.2.1 39 9) (Int32.ofInt 2) = false by rw [show (xg 0 h.2.1 39 9) = (nI (rkk T n p)) from rt.2.1]; exact c1), (show xe_c .ne (xg 0 h.2.1 39 12) (Int32.ofInt 1) = true by rw [show (xg 0 h.2.1 39 12) = (nI (tke T n p - tks T n p)) from (rt.2.2.1 (by omega)).1]; exact c27), (show xe_c .eq (xg 0 h.2.1 39 9) (Int32.ofInt 3) = false by rw [show (xg 0 h.2.1 39 9) = (nI (rkk T n p)) from rt.2.1, z1]; rfl), trivial⟩ (fun hq => ?_)
      refine xq_run hq rfl rfl (rsg_q (c := 40) (by decide) (by decide) hT (rt) hq) ?_
      rintro v28 h_v28 ⟨rfl, rfl⟩
      cases b29 : (decide (tkk T n p = 40)) with
      | true =>
        have db29 := of_decide_eq_true b29
        omega
      | false =>
        have db29 := of_decide_eq_false b29
        refine xq_n 44 [0, 1] [(0, .ref 39), (1, .int (Int32.ofInt 0))] [.ref 39] h [false, false] 6 hq rfl ⟨rfl, (by decide), trivial⟩ (fun hq => ?_)
        refine xq_run hq rfl rfl (rnm_q hT (rt) hq) ?_
        rintro v30 h_v30 ⟨rfl, rfl⟩
        cases b31 : (nmt T n p) with
        | true =>
          have db31 := of_decide_eq_true b31
          refine xq_n 102 [0, 1] [(0, .ref 39), (1, .int (Int32.ofInt 0))] [.ref 39] h [true, true, true] 10 hq rfl ⟨rfl, (show xe_c .ne (xg 0 h.2.1 39 9) (Int32.ofInt 3) = true by rw [show (xg 0 h.2.1 39 9) = (nI (rkk T n p)) from rt.2.1, z1]; rfl), (by decide), trivial⟩ (fun hq => ?_)
          refine xq_run hq rfl rfl (rnm_q hT (rt) hq) ?_
          rintro v32 h_v32 ⟨rfl, rfl⟩
          refine xq_n 109 [0, 1] [(0, .ref 39), (1, .int (Int32.ofInt 0))] [.ref 39] h [false] 4 hq rfl ⟨(show xe_c .eq (bl (nmt T n p)) 0 = false by rw [b31]; rfl), trivial⟩ (fun hq => ?_)
          refine xq_run hq rfl rfl (np_q (rr0.2.2.2.2.1) ((rt.2.2.1 (by omega)).2) (tkw_lt (by omega)) hq) ?_
          rintro v33 h_33 ⟨rfl, ⟨rfl, hn33⟩ | ⟨kl33, rfl, hn33⟩⟩
          · skip
            refine xq_n 118 [0, 1] [(0, .ref 39), (1, .int (Int32.ofInt 0))] [.int (Int32.ofInt 3), .ref 39] h [false] 6 hq rfl ⟨(by decide), trivial⟩ (fun hq => ?_)
            refine xq_run hq rfl rfl (bad_q (k := 3) hT (rt) hq) ?_
            rintro v34 h34 ⟨rfl, g34, f34, l34⟩
            have hq := fx_q g34 hq
            rw [if_neg (show ¬ rkk T n p = 1 from fun e => by have e1 := rk1.mp e; omega)] at f34
            have er : bo T n mem nn NW p o fs = .inr (3, tks T n p) := by
              unfold bo
              repeat (first | rw [if_pos (by omega)] | rw [if_neg (by omega)] | rw [if_pos b29] | rw [if_neg (by rw [b29]; decide)] | rw [if_pos b31] | rw [if_neg (by rw [b31]; decide)] | rw [if_pos hn33] | rw [if_neg (by rw [hn33]; decide)] | rw [if_pos (show lone T n p = true from decide_eq_true (by omega))] | rw [if_neg (show ¬ lone T n p = true from fun e => by have := of_decide_eq_true e; omega)])
              try rfl
            exact xq_ret rfl rfl rfl (dQ_r er)
          · skip
            cases c35 : xe_c .ne (nI (nmi nn NW (tkw T n p))) (Int32.ofInt (-1)) with
            | true =>
              cases c36 : xe_c .ne (nI o) 120 with
              | true =>
                have z36 : o ≠ 120 := nq_net (a := o) (b := 120) (by omega) (by omega) c36
                refine xq_n 140 [0, 1] [(0, .ref 39), (1, .int (Int32.ofInt 0))] [.int 40, .ref 39] h [true, true] 10 hq rfl ⟨c35, (show xe_c .ne (xg 0 h.2.1 39 27) 120 = true by rw [show (xg 0 h.2.1 39 27) = (nI o) from rr0.2.2.2.2.2.1]; exact c36), trivial⟩ (fun hq => ?_)
                refine xq_run hq rfl rfl (rsg_q (c := 40) (by decide) (by decide) hT (rt) hq) ?_
                rintro v37 h_v37 ⟨rfl, rfl⟩
                refine xq_n 228 [0, 1, 2] [(0, .ref 39), (1, .int (Int32.ofInt 0)), (2, .int (((xg 0 (xh_ui h 39 27 ((xg 0 h.2.1 39 27) + (Int32.ofInt 1))).2.2.1 39 15).toInt32) - (Int32.ofInt 1)))] [.ref 39] (xh_ui h 39 27 ((xg 0 h.2.1 39 27) + (Int32.ofInt 1))) [true, true, true] 24 hq rfl ⟨(show xe_c .eq (bl (decide (tkk T n p = 40))) 0 = true by rw [b29]; rfl), (show xe_c .ne (xg 0 (xh_ui h 39 27 ((xg 0 h.2.1 39 27) + (Int32.ofInt 1))).2.1 39 9) (Int32.ofInt 3) = true by rw [show (xg 0 (xh_ui h 39 27 ((xg 0 h.2.1 39 27) + (Int32.ofInt 1))).2.1 39 9) = (nI (rkk T n p)) from (gx_k (by decide)).trans (rt.2.1), z1]; rfl), (show xe_c .ne (xg 0 (xh_ui h 39 27 ((xg 0 h.2.1 39 27) + (Int32.ofInt 1))).2.1 39 9) (Int32.ofInt 4) = true by rw [show (xg 0 (xh_ui h 39 27 ((xg 0 h.2.1 39 27) + (Int32.ofInt 1))).2.1 39 9) = (nI (rkk T n p)) from (gx_k (by decide)).trans (rt.2.1), z1]; rfl), trivial⟩ (fun _ => ?_)
                rw [show (xg 0 (xh_ui h 39 27 ((xg 0 h.2.1 39 27) + (Int32.ofInt 1))).2.2.1 39 15) = (Int64.ofNat (tkw T n p)) from (rt.2.2.1 (by omega)).2]
                rw [show (xg 0 h.2.1 39 27) = (nI o) from rr0.2.2.2.2.2.1]
                rw [show ((nI o) + (Int32.ofInt 1)) = nI (o + 1) from nI_1 _]
                have hq : a_rq a_tb (xh_ui h 39 27 (nI (o + 1))) := a_rq_ui hq
                refine xq_run hq rfl rfl (np_q (nms_f (S := rS) (L := gL) rr0.2.2.2.2.1 (fx_ui (fx_0) rfl) rfl (fun _ => rfl)) ((rt.2.2.1 (by omega)).2) (tkw_lt (by omega)) hq) ?_
                rintro v38 h_38 ⟨rfl, ⟨rfl, hn38⟩ | ⟨kl38, rfl, hn38⟩⟩
                · rw [hn33] at hn38; cases hn38
                · skip
                  refine xq_n 235 [0, 1, 2, 3, 4] [(0, .ref 39), (1, .int (Int32.ofInt 0)), (2, .int (((Int64.ofNat (tkw T n p)).toInt32) - (Int32.ofInt 1))), (3, .int (nI (nmi nn NW (tkw T n p)))), (4, .int (Int32.ofInt 0))] [] (xh_ui h 39 27 (nI (o + 1))) [] 5 hq rfl trivial (fun hq => ?_)
                  have er : bo T n mem nn NW p o fs = .inl (0, tke T n p, (o + 1), fs) := by
                    unfold bo
                    repeat (first | rw [if_pos (by omega)] | rw [if_neg (by omega)] | rw [if_pos b29] | rw [if_neg (by rw [b29]; decide)] | rw [if_pos b31] | rw [if_neg (by rw [b31]; decide)] | rw [if_pos hn33] | rw [if_neg (by rw [hn33]; decide)] | rw [if_pos hn38] | rw [if_neg (by rw [hn38]; decide)] | rw [if_pos (show lone T n p = true from decide_eq_true (by omega))] | rw [if_neg (show ¬ lone T n p = true from fun e => by have := of_decide_eq_true e; omega)])
                    try rfl
                  have ev : vbo T n nn NW sv NV p ds one = (ds, NV (nmi nn NW (tkw T n p))) := by unfold vbo; rw [if_neg (by omega), if_neg (by omega), if_neg (show ¬ lone T n p = true from fun e => by have := of_decide_eq_true e; omega)]
                  rw [ev]
                  refine xq_mono (bon_dl (hb := xh_ui h 39 27 (nI (o + 1))) s4 rfl (by omega) ((gx_o (by decide)).trans (dn _ kl38)) f 0 _ fx_0 (⟨rtp_f (S := rS) (L := gL) rr0.1 (fx_ui (fx_0) rfl) rfl (fun _ => rfl), rtk_ui (rt) rfl, (gx_k (by decide)).trans (rr0.2.2.1), rr0.2.2.2.1, nms_f (S := rS) (L := gL) rr0.2.2.2.2.1 (fx_ui (fx_0) rfl) rfl (fun _ => rfl), gx_s, by omega, (gx_k (by decide)).trans (rr0.2.2.2.2.2.2.2.1), rr0.2.2.2.2.2.2.2.2.1, rr0.2.2.2.2.2.2.2.2.2.1, frs_c (fun k hk' => gx_o (by decide)) rr0.2.2.2.2.2.2.2.2.2.2.1, (gx_k (by decide)).trans (rr0.2.2.2.2.2.2.2.2.2.2.2)⟩) (by omega) (by omega) (dfr_39 s4 (dt)) (lp_0 _ ((gx_o (by decide)).trans (d45))) hq) (fun v h' e => dQ_l er e.1 e.2)
              | false =>
                have z36 : o = 120 := nq_nef (a := o) (b := 120) (by omega) (by omega) c36
                refine xq_n 133 [0, 1] [(0, .ref 39), (1, .int (Int32.ofInt 0))] [.int (Int32.ofInt 4), .ref 39] h [true, false] 10 hq rfl ⟨c35, (show xe_c .ne (xg 0 h.2.1 39 27) 120 = false by rw [show (xg 0 h.2.1 39 27) = (nI o) from rr0.2.2.2.2.2.1]; exact c36), trivial⟩ (fun hq => ?_)
                refine xq_run hq rfl rfl (bad_q (k := 4) hT (rt) hq) ?_
                rintro v39 h39 ⟨rfl, g39, f39, l39⟩
                have hq := fx_q g39 hq
                rw [if_neg (show ¬ rkk T n p = 1 from fun e => by have e1 := rk1.mp e; omega)] at f39
                have er : bo T n mem nn NW p o fs = .inr (4, tks T n p) := by
                  unfold bo
                  repeat (first | rw [if_pos (by omega)] | rw [if_neg (by omega)] | rw [if_pos b29] | rw [if_neg (by rw [b29]; decide)] | rw [if_pos b31] | rw [if_neg (by rw [b31]; decide)] | rw [if_pos hn33] | rw [if_neg (by rw [hn33]; decide)] | rw [if_pos (show lone T n p = true from decide_eq_true (by omega))] | rw [if_neg (show ¬ lone T n p = true from fun e => by have := of_decide_eq_true e; omega)])
                  try rfl
                exact xq_ret rfl rfl rfl (dQ_r er)
            | false =>
              exact absurd (xne_j c35) (nIm1 (by omega))
        | false =>
          have db31 := of_decide_eq_false b31
          refine xq_n 52 [0, 1] [(0, .ref 39), (1, .int (Int32.ofInt 0))] [.int (Int32.ofInt 1), .ref 39] h [false] 5 hq rfl ⟨rfl, trivial⟩ (fun hq => ?_)
          refine xq_run hq rfl rfl (bad_q (k := 1) hT (rt) hq) ?_
          rintro v40 h40 ⟨rfl, g40, f40, l40⟩
          have hq := fx_q g40 hq
          rw [show (if rkk T n p = 1 then 1 else 1) = 1 by split <;> rfl] at f40
          have er : bo T n mem nn NW p o fs = .inr (1, tks T n p) := by
            unfold bo
            repeat (first | rw [if_pos (by omega)] | rw [if_neg (by omega)] | rw [if_pos b29] | rw [if_neg (by rw [b29]; decide)] | rw [if_pos b31] | rw [if_neg (by rw [b31]; decide)] | rw [if_pos (show lone T n p = true from decide_eq_true (by omega))] | rw [if_neg (show ¬ lone T n p = true from fun e => by have := of_decide_eq_true e; omega)])
            try rfl
          exact xq_ret rfl rfl rfl (dQ_r er)
    | false =>
      have z27 : (tke T n p - tks T n p) = 1 := nq_nef (a := (tke T n p - tks T n p)) (b := 1) (by omega) (by omega) c27
      refine xq_n 33 [0, 1] [(0, .ref 39), (1, .int (Int32.ofInt 1))] [.int 40, .ref 39] h [false, false, false] 19 hq rfl ⟨(show xe_c .ne (xg 0 h.2.1 39 9) (Int32.ofInt 2) = false by rw [show (xg 0 h.2.1 39 9) = (nI (rkk T n p)) from rt.2.1]; exact c1), (show xe_c .ne (xg 0 h.2.1 39 12) (Int32.ofInt 1) = false by rw [show (xg 0 h.2.1 39 12) = (nI (tke T n p - tks T n p)) from (rt.2.2.1 (by omega)).1]; exact c27), (show xe_c .eq (xg 0 h.2.1 39 9) (Int32.ofInt 3) = false by rw [show (xg 0 h.2.1 39 9) = (nI (rkk T n p)) from rt.2.1, z1]; rfl), trivial⟩ (fun hq => ?_)
      refine xq_run hq rfl rfl (rsg_q (c := 40) (by decide) (by decide) hT (rt) hq) ?_
      rintro v41 h_v41 ⟨rfl, rfl⟩
      cases b42 : (decide (tkk T n p = 40)) with
      | true =>
        have db42 := of_decide_eq_true b42
        omega
      | false =>
        have db42 := of_decide_eq_false b42
        refine xq_n 89 [0, 1] [(0, .ref 39), (1, .int (Int32.ofInt 1))] [.int (((xg 0 h.2.2.1 39 15).toInt32) - (Int32.ofInt 1)), .ref 39] h [false, true, true, false] 17 hq rfl ⟨rfl, (by decide), (show xe_c .ne (xg 0 h.2.1 39 9) (Int32.ofInt 3) = true by rw [show (xg 0 h.2.1 39 9) = (nI (rkk T n p)) from rt.2.1, z1]; rfl), (by decide), trivial⟩ (fun hq => ?_)
        rw [show (xg 0 h.2.2.1 39 15) = (Int64.ofNat (tkw T n p)) from (rt.2.2.1 (by omega)).2]
        have lw := lone_w (T := T) (n := n) (p := p) (decide_eq_true (by omega))
        rw [show (((Int64.ofNat (tkw T n p)).toInt32) - (Int32.ofInt 1)) = nI (tkw T n p - 1) from ll_v (by omega) (by omega) (by omega)]
        refine xq_run hq rfl rfl (rmb_q (m := (tkw T n p - 1)) (by omega) rr0.2.2.2.1 (rr0.2.2.1) hq) ?_
        rintro v43 h_v43 ⟨rfl, rfl⟩
        cases b44 : (decide ((tkw T n p - 1) < mem)) with
        | true =>
          have db44 := of_decide_eq_true b44
          refine xq_n 102 [0, 1] [(0, .ref 39), (1, .int (Int32.ofInt 1))] [.ref 39] h [true] 4 hq rfl ⟨rfl, trivial⟩ (fun hq => ?_)
          refine xq_run hq rfl rfl (rnm_q hT (rt) hq) ?_
          rintro v45 h_v45 ⟨rfl, rfl⟩
          cases b46 : (nmt T n p) with
          | true =>
            have db46 := of_decide_eq_true b46
            omega
          | false =>
            have db46 := of_decide_eq_false b46
            cases c47 : xe_c .ne (nI o) 120 with
            | true =>
              have z47 : o ≠ 120 := nq_net (a := o) (b := 120) (by omega) (by omega) c47
              refine xq_n 140 [0, 1] [(0, .ref 39), (1, .int (Int32.ofInt 1))] [.int 40, .ref 39] h [true, true] 9 hq rfl ⟨rfl, (show xe_c .ne (xg 0 h.2.1 39 27) 120 = true by rw [show (xg 0 h.2.1 39 27) = (nI o) from rr0.2.2.2.2.2.1]; exact c47), trivial⟩ (fun hq => ?_)
              refine xq_run hq rfl rfl (rsg_q (c := 40) (by decide) (by decide) hT (rt) hq) ?_
              rintro v48 h_v48 ⟨rfl, rfl⟩
              refine xq_n 228 [0, 1, 2] [(0, .ref 39), (1, .int (Int32.ofInt 1)), (2, .int (((xg 0 (xh_ui h 39 27 ((xg 0 h.2.1 39 27) + (Int32.ofInt 1))).2.2.1 39 15).toInt32) - (Int32.ofInt 1)))] [.ref 39] (xh_ui h 39 27 ((xg 0 h.2.1 39 27) + (Int32.ofInt 1))) [true, true, true] 24 hq rfl ⟨(show xe_c .eq (bl (decide (tkk T n p = 40))) 0 = true by rw [b42]; rfl), (show xe_c .ne (xg 0 (xh_ui h 39 27 ((xg 0 h.2.1 39 27) + (Int32.ofInt 1))).2.1 39 9) (Int32.ofInt 3) = true by rw [show (xg 0 (xh_ui h 39 27 ((xg 0 h.2.1 39 27) + (Int32.ofInt 1))).2.1 39 9) = (nI (rkk T n p)) from (gx_k (by decide)).trans (rt.2.1), z1]; rfl), (show xe_c .ne (xg 0 (xh_ui h 39 27 ((xg 0 h.2.1 39 27) + (Int32.ofInt 1))).2.1 39 9) (Int32.ofInt 4) = true by rw [show (xg 0 (xh_ui h 39 27 ((xg 0 h.2.1 39 27) + (Int32.ofInt 1))).2.1 39 9) = (nI (rkk T n p)) from (gx_k (by decide)).trans (rt.2.1), z1]; rfl), trivial⟩ (fun _ => ?_)
              rw [show (xg 0 (xh_ui h 39 27 ((xg 0 h.2.1 39 27) + (Int32.ofInt 1))).2.2.1 39 15) = (Int64.ofNat (tkw T n p)) from (rt.2.2.1 (by omega)).2]
              rw [show (xg 0 h.2.1 39 27) = (nI o) from rr0.2.2.2.2.2.1]
              rw [show ((nI o) + (Int32.ofInt 1)) = nI (o + 1) from nI_1 _]
              have hq : a_rq a_tb (xh_ui h 39 27 (nI (o + 1))) := a_rq_ui hq
              refine xq_run hq rfl rfl (np_q (nms_f (S := rS) (L := gL) rr0.2.2.2.2.1 (fx_ui (fx_0) rfl) rfl (fun _ => rfl)) ((rt.2.2.1 (by omega)).2) (tkw_lt (by omega)) hq) ?_
              rintro v49 h_49 ⟨rfl, ⟨rfl, hn49⟩ | ⟨kl49, rfl, hn49⟩⟩
              · skip
                refine xq_n 235 [0, 1, 2, 3, 4] [(0, .ref 39), (1, .int (Int32.ofInt 1)), (2, .int (((Int64.ofNat (tkw T n p)).toInt32) - (Int32.ofInt 1))), (3, .int (Int32.ofInt (-1))), (4, .int (Int32.ofInt 0))] [] (xh_ui h 39 27 (nI (o + 1))) [] 5 hq rfl trivial (fun hq => ?_)
                have er : bo T n mem nn NW p o fs = .inl (0, tke T n p, (o + 1), fs) := by
                  unfold bo
                  repeat (first | rw [if_pos (by omega)] | rw [if_neg (by omega)] | rw [if_pos b42] | rw [if_neg (by rw [b42]; decide)] | rw [if_pos b44] | rw [if_neg (by rw [b44]; decide)] | rw [if_pos b46] | rw [if_neg (by rw [b46]; decide)] | rw [if_pos hn49] | rw [if_neg (by rw [hn49]; decide)] | rw [if_pos (show lone T n p = true from decide_eq_true (by omega))] | rw [if_neg (show ¬ lone T n p = true from fun e => by have := of_decide_eq_true e; omega)])
                  try rfl
                have lw := lone_w (T := T) (n := n) (p := p) (decide_eq_true (by omega))
                have ev : vbo T n nn NW sv NV p ds one = (ds, sv.testBit (tkw T n p - 1)) := by unfold vbo; rw [if_neg (by omega), if_neg (by omega), if_pos (show lone T n p = true from decide_eq_true (by omega)), show T (tks T n p) - 97 = tkw T n p - 1 by omega]
                rw [ev]
                refine xq_mono (bom_dl (y1 := true) s4 (ll_v (by omega) (by omega) (by omega)) (by omega) f 0 _ fx_0 (⟨rtp_f (S := rS) (L := gL) rr0.1 (fx_ui (fx_0) rfl) rfl (fun _ => rfl), rtk_ui (rt) rfl, (gx_k (by decide)).trans (rr0.2.2.1), rr0.2.2.2.1, nms_f (S := rS) (L := gL) rr0.2.2.2.2.1 (fx_ui (fx_0) rfl) rfl (fun _ => rfl), gx_s, by omega, (gx_k (by decide)).trans (rr0.2.2.2.2.2.2.2.1), rr0.2.2.2.2.2.2.2.2.1, rr0.2.2.2.2.2.2.2.2.2.1, frs_c (fun k hk' => gx_o (by decide)) rr0.2.2.2.2.2.2.2.2.2.2.1, (gx_k (by decide)).trans (rr0.2.2.2.2.2.2.2.2.2.2.2)⟩) (by omega) (by omega) (dfr_39 s4 (dt)) (lp_0 _ ((gx_o (by decide)).trans (d45))) hq) (fun v h' e => dQ_l er e.1 e.2)
              · skip
                refine xq_n 235 [0, 1, 2, 3, 4] [(0, .ref 39), (1, .int (Int32.ofInt 1)), (2, .int (((Int64.ofNat (tkw T n p)).toInt32) - (Int32.ofInt 1))), (3, .int (nI (nmi nn NW (tkw T n p)))), (4, .int (Int32.ofInt 0))] [] (xh_ui h 39 27 (nI (o + 1))) [] 5 hq rfl trivial (fun hq => ?_)
                have er : bo T n mem nn NW p o fs = .inl (0, tke T n p, (o + 1), fs) := by
                  unfold bo
                  repeat (first | rw [if_pos (by omega)] | rw [if_neg (by omega)] | rw [if_pos b42] | rw [if_neg (by rw [b42]; decide)] | rw [if_pos b44] | rw [if_neg (by rw [b44]; decide)] | rw [if_pos b46] | rw [if_neg (by rw [b46]; decide)] | rw [if_pos hn49] | rw [if_neg (by rw [hn49]; decide)] | rw [if_pos (show lone T n p = true from decide_eq_true (by omega))] | rw [if_neg (show ¬ lone T n p = true from fun e => by have := of_decide_eq_true e; omega)])
                  try rfl
                have lw := lone_w (T := T) (n := n) (p := p) (decide_eq_true (by omega))
                have ev : vbo T n nn NW sv NV p ds one = (ds, sv.testBit (tkw T n p - 1)) := by unfold vbo; rw [if_neg (by omega), if_neg (by omega), if_pos (show lone T n p = true from decide_eq_true (by omega)), show T (tks T n p) - 97 = tkw T n p - 1 by omega]
                rw [ev]
                refine xq_mono (bom_dl (y1 := true) s4 (ll_v (by omega) (by omega) (by omega)) (by omega) f 0 _ fx_0 (⟨rtp_f (S := rS) (L := gL) rr0.1 (fx_ui (fx_0) rfl) rfl (fun _ => rfl), rtk_ui (rt) rfl, (gx_k (by decide)).trans (rr0.2.2.1), rr0.2.2.2.1, nms_f (S := rS) (L := gL) rr0.2.2.2.2.1 (fx_ui (fx_0) rfl) rfl (fun _ => rfl), gx_s, by omega, (gx_k (by decide)).trans (rr0.2.2.2.2.2.2.2.1), rr0.2.2.2.2.2.2.2.2.1, rr0.2.2.2.2.2.2.2.2.2.1, frs_c (fun k hk' => gx_o (by decide)) rr0.2.2.2.2.2.2.2.2.2.2.1, (gx_k (by decide)).trans (rr0.2.2.2.2.2.2.2.2.2.2.2)⟩) (by omega) (by omega) (dfr_39 s4 (dt)) (lp_0 _ ((gx_o (by decide)).trans (d45))) hq) (fun v h' e => dQ_l er e.1 e.2)
            | false =>
              have z47 : o = 120 := nq_nef (a := o) (b := 120) (by omega) (by omega) c47
              refine xq_n 133 [0, 1] [(0, .ref 39), (1, .int (Int32.ofInt 1))] [.int (Int32.ofInt 4), .ref 39] h [true, false] 9 hq rfl ⟨rfl, (show xe_c .ne (xg 0 h.2.1 39 27) 120 = false by rw [show (xg 0 h.2.1 39 27) = (nI o) from rr0.2.2.2.2.2.1]; exact c47), trivial⟩ (fun hq => ?_)
              refine xq_run hq rfl rfl (bad_q (k := 4) hT (rt) hq) ?_
              rintro v50 h50 ⟨rfl, g50, f50, l50⟩
              have hq := fx_q g50 hq
              rw [if_neg (show ¬ rkk T n p = 1 from fun e => by have e1 := rk1.mp e; omega)] at f50
              have er : bo T n mem nn NW p o fs = .inr (4, tks T n p) := by
                unfold bo
                repeat (first | rw [if_pos (by omega)] | rw [if_neg (by omega)] | rw [if_pos b42] | rw [if_neg (by rw [b42]; decide)] | rw [if_pos b44] | rw [if_neg (by rw [b44]; decide)] | rw [if_pos b46] | rw [if_neg (by rw [b46]; decide)] | rw [if_pos (show lone T n p = true from decide_eq_true (by omega))] | rw [if_neg (show ¬ lone T n p = true from fun e => by have := of_decide_eq_true e; omega)])
                try rfl
              exact xq_ret rfl rfl rfl (dQ_r er)
        | false =>
          have db44 := of_decide_eq_false b44
          refine xq_n 97 [0, 1] [(0, .ref 39), (1, .int (Int32.ofInt 1))] [.int (Int32.ofInt 2), .ref 39] h [false] 5 hq rfl ⟨rfl, trivial⟩ (fun hq => ?_)
          refine xq_run hq rfl rfl (bad_q (k := 2) hT (rt) hq) ?_
          rintro v51 h51 ⟨rfl, g51, f51, l51⟩
          have hq := fx_q g51 hq
          rw [if_neg (show ¬ rkk T n p = 1 from fun e => by have e1 := rk1.mp e; omega)] at f51
          have er : bo T n mem nn NW p o fs = .inr (2, tks T n p) := by
            unfold bo
            repeat (first | rw [if_pos (by omega)] | rw [if_neg (by omega)] | rw [if_pos b42] | rw [if_neg (by rw [b42]; decide)] | rw [if_pos b44] | rw [if_neg (by rw [b44]; decide)] | rw [if_pos (show lone T n p = true from decide_eq_true (by omega))] | rw [if_neg (show ¬ lone T n p = true from fun e => by have := of_decide_eq_true e; omega)])
            try rfl
          exact xq_ret rfl rfl rfl (dQ_r er)
theorem dfr_w48 {h : xh_H} {sv : Nat} {x : Int32} (s4 : sv < 4096) {fs : List Nat} {ds : List vF} (f1 : 1 ≤ fs.length) (d : dfr h sv fs ds) : dfr (xh_ui h 48 (fs.length - 1) x) sv fs (vw x ds) := by
  cases fs with
  | nil => exact absurd f1 (by decide)
  | cons t fs => exact dfr_48 s4 d
theorem dnm_f {S L : Nat → Nat → Bool} {h h' : xh_H} {sv : Nat} {NV : Nat → Bool} (d : dnm h sv nn NV) (g : fx S L h h') (e : ∀ k, S 43 k = false) : dnm h' sv nn NV := fun k hk' => (fx_i g (e _)).trans (d k hk')
set_option maxRecDepth 100000 in
set_option maxHeartbeats 4000000 in
theorem bi_d {f p o : Nat} {fs : List Nat} {h : xh_H} {sv : Nat} {ds : List vF} {one : Bool} (s4 : sv < 4096) (dt : dfr h sv fs ds) (d45 : xg 0 h.2.1 45 sv = bl one) {NV : Nat → Bool} (dn : dnm h sv nn NV) (rr0 : rr h T n mem nn NW p o fs) (h3 : tkk T n p = 3) (hq : a_rq a_tb h) : xq f xi_X10_beginItem xmi_X10_beginItem 0 [(0, .ref 39)] [] h (fun v h' => dQ h' sv (bi T n mem nn NW p o fs) (vbi T n nn NW sv NV p ds one)) := by
  have hT : ∀ k, k < n → T k < 256 := fun k hk' => (rr0.1.2.2 k hk').1
  have rt := rr0.2.1
  have rb := (rkk_k (T := T) (n := n) (p := p)).1
  have kb := tkk_lt (T := T) (n := n) (p := p) hT
  have o120 := rr0.2.2.2.2.2.2.1
  have f1 := rr0.2.2.2.2.2.2.2.2.1
  have n16 := rr0.2.2.2.2.1.2.1
  have f13 := rr0.2.2.2.2.2.2.2.2.2.1
  have n6 := rr0.1.2.1
  have hfs := f1
  have t9 : tkn T n p ≤ 999 := vf_999
  have s6 := tks_le (T := T) (n := n) (p := p)
  refine xq_n 11 [0, 1, 2] [(0, .ref 39), (1, .int (xg 0 h.2.1 39 10)), (2, .int (xg 0 h.2.1 39 8))] [.ref 39] h [] 9 hq rfl trivial (fun hq => ?_)
  rw [show (xg 0 h.2.1 39 10) = (nI (tkn T n p)) from rt.2.2.2.1 (by omega)]
  rw [show (xg 0 h.2.1 39 8) = (nI (tks T n p)) from rt.1]
  have nz1 : tkk T n p ≠ 0 := by omega
  have le1 := tke_le nz1
  refine xq_run hq rfl rfl (go_q hq (rr0.1) (rt.2.2.2.2.2 (by omega)) le1) ?_
  rintro v1 h1 ⟨rfl, g1, t1⟩
  have hq := fx_q g1 hq
  have rb1 := (rkk_k (T := T) (n := n) (p := tke T n p)).1
  have kb1 := tkk_lt (T := T) (n := n) (p := tke T n p) hT
  refine xq_n 17 [0, 1, 2] [(0, .ref 39), (1, .int (nI (tkn T n p))), (2, .int (nI (tks T n p)))] [.int 42, .ref 39] h1 [] 4 hq rfl trivial (fun hq => ?_)
  refine xq_run hq rfl rfl (rsg_q (c := 42) (by decide) (by decide) hT (t1) hq) ?_
  rintro v2 h_v2 ⟨rfl, rfl⟩
  cases b3 : (decide (tkk T n (tke T n p) = 42)) with
  | true =>
    have db3 := of_decide_eq_true b3
    refine xq_n 34 [0, 1, 2] [(0, .ref 39), (1, .int (nI (tkn T n p))), (2, .int (nI (tks T n p)))] [.ref 39] (xh_ui h1 48 ((xg 0 h1.2.1 39 28).toNatClampNeg) (nI (tkn T n p))) [false] 10 hq rfl ⟨rfl, trivial⟩ (fun _ => ?_)
    rw [show (xg 0 h1.2.1 39 28) = (nI (fs.length - 1)) from (fx_i g1 rfl).trans (rr0.2.2.2.2.2.2.2.1)]
    rw [show ((nI (fs.length - 1)).toNatClampNeg) = (fs.length - 1) from nI_clamp (by omega)]
    have hq : a_rq a_tb (xh_ui h1 48 (fs.length - 1) (nI (tkn T n p))) := a_rq_ui hq
    have nz4 : tkk T n (tke T n p) ≠ 0 := by omega
    have le4 := tke_le nz4
    refine xq_run hq rfl rfl (go_q hq (rtp_f (S := rS) (L := gL) rr0.1 (fx_ui (fx_t (fx_0) (fx_w g1 (fun _ _ => gS_r) (fun _ _ z => z))) rfl) rfl (fun _ => rfl)) ((gx_o (by decide)).trans (t1.2.2.2.2.2 (by omega))) le4) ?_
    rintro v4 h4 ⟨rfl, g4, t4⟩
    have hq := fx_q g4 hq
    have rb4 := (rkk_k (T := T) (n := n) (p := tke T n (tke T n p))).1
    have kb4 := tkk_lt (T := T) (n := n) (p := tke T n (tke T n p)) hT
    refine xq_n 38 [0, 1, 2] [(0, .ref 39), (1, .int (nI (tkn T n p))), (2, .int (nI (tks T n p)))] [.ref 39] h4 [] 3 hq rfl trivial (fun hq => ?_)
    have er : bi T n mem nn NW p o fs = bo T n mem nn NW (tke T n (tke T n p)) o fs := by
      unfold bi
      repeat (first | rw [if_pos (by omega)] | rw [if_neg (by omega)] | rw [if_pos b3] | rw [if_neg (by rw [b3]; decide)])
      try rfl
    have ev : vbi T n nn NW sv NV p ds one = vbo T n nn NW sv NV (tke T n (tke T n p)) (vw (nI (tkn T n p)) ds) one := by unfold vbi; rw [if_pos (by omega)]
    refine xq_run hq rfl rfl (xq_and (bo_q ⟨rtp_f (S := rS) (L := gL) rr0.1 (fx_t (fx_ui (fx_t (fx_0) (fx_w g1 (fun _ _ => gS_r) (fun _ _ z => z))) rfl) (fx_w g4 (fun _ _ => gS_r) (fun _ _ z => z))) rfl (fun _ => rfl), t4, (fx_i g4 rfl).trans ((gx_o (by decide)).trans ((fx_i g1 rfl).trans (rr0.2.2.1))), rr0.2.2.2.1, nms_f (S := rS) (L := gL) rr0.2.2.2.2.1 (fx_t (fx_ui (fx_t (fx_0) (fx_w g1 (fun _ _ => gS_r) (fun _ _ z => z))) rfl) (fx_w g4 (fun _ _ => gS_r) (fun _ _ z => z))) rfl (fun _ => rfl), (fx_i g4 rfl).trans ((gx_o (by decide)).trans ((fx_i g1 rfl).trans (rr0.2.2.2.2.2.1))), by omega, (fx_i g4 rfl).trans ((gx_o (by decide)).trans ((fx_i g1 rfl).trans (rr0.2.2.2.2.2.2.2.1))), rr0.2.2.2.2.2.2.2.2.1, rr0.2.2.2.2.2.2.2.2.2.1, frs_c (fun k hk' => (fx_i g4 rfl).trans ((gx_o (by decide)).trans (fx_i g1 rfl))) rr0.2.2.2.2.2.2.2.2.2.2.1, (fx_i g4 rfl).trans ((gx_o (by decide)).trans ((fx_i g1 rfl).trans (rr0.2.2.2.2.2.2.2.2.2.2.2)))⟩ hq) (bo_d s4 (dfr_go s4 (dfr_w48 s4 hfs (dfr_go s4 (dt) g1)) g4) ((fx_i g4 rfl).trans ((gx_o (by decide)).trans ((fx_i g1 rfl).trans (d45)))) (dnm_f (S := rS) (L := gL) dn (fx_t (fx_ui (fx_t (fx_0) (fx_w g1 (fun _ _ => gS_r) (fun _ _ z => z))) rfl) (fx_w g4 (fun _ _ => gS_r) (fun _ _ z => z))) (fun _ => rfl)) ⟨rtp_f (S := rS) (L := gL) rr0.1 (fx_t (fx_ui (fx_t (fx_0) (fx_w g1 (fun _ _ => gS_r) (fun _ _ z => z))) rfl) (fx_w g4 (fun _ _ => gS_r) (fun _ _ z => z))) rfl (fun _ => rfl), t4, (fx_i g4 rfl).trans ((gx_o (by decide)).trans ((fx_i g1 rfl).trans (rr0.2.2.1))), rr0.2.2.2.1, nms_f (S := rS) (L := gL) rr0.2.2.2.2.1 (fx_t (fx_ui (fx_t (fx_0) (fx_w g1 (fun _ _ => gS_r) (fun _ _ z => z))) rfl) (fx_w g4 (fun _ _ => gS_r) (fun _ _ z => z))) rfl (fun _ => rfl), (fx_i g4 rfl).trans ((gx_o (by decide)).trans ((fx_i g1 rfl).trans (rr0.2.2.2.2.2.1))), by omega, (fx_i g4 rfl).trans ((gx_o (by decide)).trans ((fx_i g1 rfl).trans (rr0.2.2.2.2.2.2.2.1))), rr0.2.2.2.2.2.2.2.2.1, rr0.2.2.2.2.2.2.2.2.2.1, frs_c (fun k hk' => (fx_i g4 rfl).trans ((gx_o (by decide)).trans (fx_i g1 rfl))) rr0.2.2.2.2.2.2.2.2.2.2.1, (fx_i g4 rfl).trans ((gx_o (by decide)).trans ((fx_i g1 rfl).trans (rr0.2.2.2.2.2.2.2.2.2.2.2)))⟩ hq)) ?_
    rintro v5 h5 ⟨⟨g5, l5, q5⟩, dq5⟩
    have hq := fx_q g5 hq
    rw [er, ev]
    have hv5 : ∃ x, v5 = some (.int x) := by
      cases hr5 : (bo T n mem nn NW (tke T n (tke T n p)) o fs) with
      | inl s => obtain ⟨a1, a2, a3, a4⟩ := s; exact ⟨1, (l5 _ _ _ _ hr5).1⟩
      | inr e => obtain ⟨a1, a2⟩ := e; exact ⟨0, (q5 _ _ hr5).1⟩
    obtain ⟨x5, rfl⟩ := hv5
    exact xq_ret rfl rfl rfl dq5
  | false =>
    have db3 := of_decide_eq_false b3
    refine xq_n 53 [0, 1, 2] [(0, .ref 39), (1, .int (nI (tkn T n p))), (2, .int (nI (tks T n p)))] [.ref 39] (xh_ui h1 48 ((xg 0 h1.2.1 39 28).toNatClampNeg) (Int32.ofInt 1)) [true] 10 hq rfl ⟨rfl, trivial⟩ (fun _ => ?_)
    rw [show (xg 0 h1.2.1 39 28) = (nI (fs.length - 1)) from (fx_i g1 rfl).trans (rr0.2.2.2.2.2.2.2.1)]
    rw [show ((nI (fs.length - 1)).toNatClampNeg) = (fs.length - 1) from nI_clamp (by omega)]
    have hq : a_rq a_tb (xh_ui h1 48 (fs.length - 1) (Int32.ofInt 1)) := a_rq_ui hq
    refine xq_run hq rfl rfl (rw4_q hT (rtk_ui (t1) rfl) hq) ?_
    rintro v6 h_v6 ⟨rfl, rfl⟩
    cases b7 : (ky T n (tke T n p) 4) with
    | true =>
      have db7 := of_decide_eq_true b7
      cases c8 : xe_c .ne (nI (tkn T n p)) 0 with
      | true =>
        have z8 : (tkn T n p) ≠ 0 := nq_net (a := (tkn T n p)) (b := 0) (by omega) (by omega) c8
        cases c9 : xe_c .ne (nI o) 120 with
        | true =>
          have z9 : o ≠ 120 := nq_net (a := o) (b := 120) (by omega) (by omega) c9
          refine xq_n 104 [0, 1, 2] [(0, .ref 39), (1, .int (nI (tkn T n p))), (2, .int (nI (tks T n p)))] [.int (nI (tkn T n p)), .ref 39] (xh_ui (xh_ui h1 48 (fs.length - 1) (Int32.ofInt 1)) 39 27 ((xg 0 (xh_ui h1 48 (fs.length - 1) (Int32.ofInt 1)).2.1 39 27) + (Int32.ofInt 1))) [true, true, true] 17 hq rfl ⟨rfl, c8, (show xe_c .ne (xg 0 (xh_ui h1 48 (fs.length - 1) (Int32.ofInt 1)).2.1 39 27) 120 = true by rw [show (xg 0 (xh_ui h1 48 (fs.length - 1) (Int32.ofInt 1)).2.1 39 27) = (nI o) from (gx_o (by decide)).trans ((fx_i g1 rfl).trans (rr0.2.2.2.2.2.1))]; exact c9), trivial⟩ (fun _ => ?_)
          rw [show (xg 0 (xh_ui h1 48 (fs.length - 1) (Int32.ofInt 1)).2.1 39 27) = (nI o) from (gx_o (by decide)).trans ((fx_i g1 rfl).trans (rr0.2.2.2.2.2.1))]
          rw [show ((nI o) + (Int32.ofInt 1)) = nI (o + 1) from nI_1 _]
          have hq : a_rq a_tb (xh_ui (xh_ui h1 48 (fs.length - 1) (Int32.ofInt 1)) 39 27 (nI (o + 1))) := a_rq_ui hq
          have er : bi T n mem nn NW p o fs = bls T n (tke T n p) (o + 1) fs := by
            unfold bi
            repeat (first | rw [if_pos (by omega)] | rw [if_neg (by omega)] | rw [if_pos b3] | rw [if_neg (by rw [b3]; decide)] | rw [if_pos b7] | rw [if_neg (by rw [b7]; decide)])
            try rfl
          have ev : vbi T n nn NW sv NV p ds one = (vL (nI (tkn T n p)) :: vw 1 ds, one) := by unfold vbi; rw [if_neg (by omega)]
          refine xq_run hq rfl rfl (xq_and (bls_q ⟨rtp_f (S := rS) (L := gL) rr0.1 (fx_ui (fx_ui (fx_t (fx_0) (fx_w g1 (fun _ _ => gS_r) (fun _ _ z => z))) rfl) rfl) rfl (fun _ => rfl), rtk_ui (rtk_ui (t1) rfl) rfl, (gx_k (by decide)).trans ((gx_o (by decide)).trans ((fx_i g1 rfl).trans (rr0.2.2.1))), rr0.2.2.2.1, nms_f (S := rS) (L := gL) rr0.2.2.2.2.1 (fx_ui (fx_ui (fx_t (fx_0) (fx_w g1 (fun _ _ => gS_r) (fun _ _ z => z))) rfl) rfl) rfl (fun _ => rfl), gx_s, by omega, (gx_k (by decide)).trans ((gx_o (by decide)).trans ((fx_i g1 rfl).trans (rr0.2.2.2.2.2.2.2.1))), rr0.2.2.2.2.2.2.2.2.1, rr0.2.2.2.2.2.2.2.2.2.1, frs_c (fun k hk' => (gx_o (by decide)).trans ((gx_o (by decide)).trans (fx_i g1 rfl))) rr0.2.2.2.2.2.2.2.2.2.2.1, (gx_k (by decide)).trans ((gx_o (by decide)).trans ((fx_i g1 rfl).trans (rr0.2.2.2.2.2.2.2.2.2.2.2)))⟩ hq) (bls_d (a := (tkn T n p)) s4 (dfr_39 s4 (dfr_w48 s4 hfs (dfr_go s4 (dt) g1))) ((gx_o (by decide)).trans ((gx_o (by decide)).trans ((fx_i g1 rfl).trans (d45)))) ⟨rtp_f (S := rS) (L := gL) rr0.1 (fx_ui (fx_ui (fx_t (fx_0) (fx_w g1 (fun _ _ => gS_r) (fun _ _ z => z))) rfl) rfl) rfl (fun _ => rfl), rtk_ui (rtk_ui (t1) rfl) rfl, (gx_k (by decide)).trans ((gx_o (by decide)).trans ((fx_i g1 rfl).trans (rr0.2.2.1))), rr0.2.2.2.1, nms_f (S := rS) (L := gL) rr0.2.2.2.2.1 (fx_ui (fx_ui (fx_t (fx_0) (fx_w g1 (fun _ _ => gS_r) (fun _ _ z => z))) rfl) rfl) rfl (fun _ => rfl), gx_s, by omega, (gx_k (by decide)).trans ((gx_o (by decide)).trans ((fx_i g1 rfl).trans (rr0.2.2.2.2.2.2.2.1))), rr0.2.2.2.2.2.2.2.2.1, rr0.2.2.2.2.2.2.2.2.2.1, frs_c (fun k hk' => (gx_o (by decide)).trans ((gx_o (by decide)).trans (fx_i g1 rfl))) rr0.2.2.2.2.2.2.2.2.2.2.1, (gx_k (by decide)).trans ((gx_o (by decide)).trans ((fx_i g1 rfl).trans (rr0.2.2.2.2.2.2.2.2.2.2.2)))⟩ hq)) ?_
          rintro v10 h10 ⟨⟨g10, l10, q10⟩, dq10⟩
          have hq := fx_q g10 hq
          rw [er, ev]
          have hv10 : ∃ x, v10 = some (.int x) := by
            cases hr10 : (bls T n (tke T n p) (o + 1) fs) with
            | inl s => obtain ⟨a1, a2, a3, a4⟩ := s; exact ⟨1, (l10 _ _ _ _ hr10).1⟩
            | inr e => obtain ⟨a1, a2⟩ := e; exact ⟨0, (q10 _ _ hr10).1⟩
          obtain ⟨x10, rfl⟩ := hv10
          exact xq_ret rfl rfl rfl dq10
        | false =>
          have z9 : o = 120 := nq_nef (a := o) (b := 120) (by omega) (by omega) c9
          refine xq_n 88 [0, 1, 2] [(0, .ref 39), (1, .int (nI (tkn T n p))), (2, .int (nI (tks T n p)))] [.int (nI (tks T n p)), .int (Int32.ofInt 4), .ref 39] (xh_ui h1 48 (fs.length - 1) (Int32.ofInt 1)) [true, true, false] 12 hq rfl ⟨rfl, c8, (show xe_c .ne (xg 0 (xh_ui h1 48 (fs.length - 1) (Int32.ofInt 1)).2.1 39 27) 120 = false by rw [show (xg 0 (xh_ui h1 48 (fs.length - 1) (Int32.ofInt 1)).2.1 39 27) = (nI o) from (gx_o (by decide)).trans ((fx_i g1 rfl).trans (rr0.2.2.2.2.2.1))]; exact c9), trivial⟩ (fun hq => ?_)
          refine xq_run hq rfl rfl (badAt_q (k := 4) (pl := (tks T n p)) hq) ?_
          rintro v11 h11 ⟨rfl, g11, f11, l11⟩
          have hq := fx_q g11 hq
          have er : bi T n mem nn NW p o fs = .inr (4, tks T n p) := by
            unfold bi
            repeat (first | rw [if_pos (by omega)] | rw [if_neg (by omega)] | rw [if_pos b3] | rw [if_neg (by rw [b3]; decide)] | rw [if_pos b7] | rw [if_neg (by rw [b7]; decide)])
            try rfl
          exact xq_ret rfl rfl rfl (dQ_r er)
      | false =>
        have z8 : (tkn T n p) = 0 := nq_nef (a := (tkn T n p)) (b := 0) (by omega) (by omega) c8
        refine xq_n 72 [0, 1, 2] [(0, .ref 39), (1, .int (nI (tkn T n p))), (2, .int (nI (tks T n p)))] [.int (nI (tks T n p)), .int (Int32.ofInt 2), .ref 39] (xh_ui h1 48 (fs.length - 1) (Int32.ofInt 1)) [true, false] 8 hq rfl ⟨rfl, c8, trivial⟩ (fun hq => ?_)
        refine xq_run hq rfl rfl (badAt_q (k := 2) (pl := (tks T n p)) hq) ?_
        rintro v12 h12 ⟨rfl, g12, f12, l12⟩
        have hq := fx_q g12 hq
        have er : bi T n mem nn NW p o fs = .inr (2, tks T n p) := by
          unfold bi
          repeat (first | rw [if_pos (by omega)] | rw [if_neg (by omega)] | rw [if_pos b3] | rw [if_neg (by rw [b3]; decide)] | rw [if_pos b7] | rw [if_neg (by rw [b7]; decide)])
          try rfl
        exact xq_ret rfl rfl rfl (dQ_r er)
    | false =>
      have db7 := of_decide_eq_false b7
      refine xq_n 61 [0, 1, 2] [(0, .ref 39), (1, .int (nI (tkn T n p))), (2, .int (nI (tks T n p)))] [.int (Int32.ofInt 1), .ref 39] (xh_ui h1 48 (fs.length - 1) (Int32.ofInt 1)) [false] 5 hq rfl ⟨rfl, trivial⟩ (fun hq => ?_)
      refine xq_run hq rfl rfl (bad_q (k := 1) hT (rtk_ui (t1) rfl) hq) ?_
      rintro v13 h13 ⟨rfl, g13, f13, l13⟩
      have hq := fx_q g13 hq
      rw [show (if rkk T n (tke T n p) = 1 then 1 else 1) = 1 by split <;> rfl] at f13
      have er : bi T n mem nn NW p o fs = .inr (1, tks T n (tke T n p)) := by
        unfold bi
        repeat (first | rw [if_pos (by omega)] | rw [if_neg (by omega)] | rw [if_pos b3] | rw [if_neg (by rw [b3]; decide)] | rw [if_pos b7] | rw [if_neg (by rw [b7]; decide)])
        try rfl
      exact xq_ret rfl rfl rfl (dQ_r er)
set_option maxRecDepth 100000 in
set_option maxHeartbeats 4000000 in
theorem bg_d {f p o ty : Nat} {fs : List Nat} {h : xh_H} {sv : Nat} {ds : List vF} {one : Bool} (s4 : sv < 4096) (dt : dfr h sv fs ds) (d45 : xg 0 h.2.1 45 sv = bl one) {NV : Nat → Bool} (dn : dnm h sv nn NV) (rr0 : rr h T n mem nn NW p o fs) (hty : fs.head? = some ty) (e47 : xg 0 h.2.1 47 (fs.length - 1) = nI ty) (ty2 : ty ≤ 2) (hq : a_rq a_tb h) : xq f xi_X10_begin xmi_X10_begin 0 [(0, .ref 39)] [] h (fun v h' => dQ h' sv (bg T n mem nn NW p o fs) (vbg T n nn NW sv NV p fs ds one)) := by
  have hT : ∀ k, k < n → T k < 256 := fun k hk' => (rr0.1.2.2 k hk').1
  have rt := rr0.2.1
  have rb := (rkk_k (T := T) (n := n) (p := p)).1
  have kb := tkk_lt (T := T) (n := n) (p := p) hT
  have o120 := rr0.2.2.2.2.2.2.1
  have f1 := rr0.2.2.2.2.2.2.2.2.1
  have n16 := rr0.2.2.2.2.1.2.1
  have f13 := rr0.2.2.2.2.2.2.2.2.2.1
  have n6 := rr0.1.2.1
  have hh : fs.head? = some 2 ↔ ty = 2 := by rw [hty]; exact ⟨fun e => Option.some.inj e, fun e => by rw [e]⟩
  cases c1 : xe_c .ne (nI ty) (Int32.ofInt 2) with
  | true =>
    have z1 : ty ≠ 2 := nq_net (a := ty) (b := 2) (by omega) (by omega) c1
    refine xq_n 27 [0] [(0, .ref 39)] [.ref 39] h [true] 10 hq rfl ⟨(show xe_c .ne (xg 0 h.2.1 47 ((xg 0 h.2.1 39 28).toNatClampNeg)) (Int32.ofInt 2) = true by rw [show (xg 0 h.2.1 47 ((xg 0 h.2.1 39 28).toNatClampNeg)) = (nI ty) from (by rw [show (xg 0 h.2.1 39 28) = (nI (fs.length - 1)) from rr0.2.2.2.2.2.2.2.1, show ((nI (fs.length - 1)).toNatClampNeg) = (fs.length - 1) from nI_clamp (by omega)]; exact e47)]; exact c1), trivial⟩ (fun hq => ?_)
    have er : bg T n mem nn NW p o fs = bo T n mem nn NW p o fs := by
      unfold bg
      first | rw [if_pos ⟨hh.mpr (by omega), by omega⟩] | rw [if_neg (by rintro ⟨e1, e2⟩; have := hh.mp e1; omega)]
    have ev : vbg T n nn NW sv NV p fs ds one = vbo T n nn NW sv NV p ds one := by unfold vbg; rw [if_neg (by rintro ⟨e1, e2⟩; have := hh.mp e1; omega)]
    refine xq_run hq rfl rfl (xq_and (bo_q rr0 hq) (bo_d s4 dt d45 dn rr0 hq)) ?_
    rintro v2 h2 ⟨⟨g2, l2, q2⟩, dq2⟩
    have hq := fx_q g2 hq
    rw [er, ev]
    have hv2 : ∃ x, v2 = some (.int x) := by
      cases hr2 : (bo T n mem nn NW p o fs) with
      | inl s => obtain ⟨a1, a2, a3, a4⟩ := s; exact ⟨1, (l2 _ _ _ _ hr2).1⟩
      | inr e => obtain ⟨a1, a2⟩ := e; exact ⟨0, (q2 _ _ hr2).1⟩
    obtain ⟨x2, rfl⟩ := hv2
    exact xq_ret rfl rfl rfl dq2
  | false =>
    have z1 : ty = 2 := nq_nef (a := ty) (b := 2) (by omega) (by omega) c1
    cases c3 : xe_c .ne (nI (rkk T n p)) (Int32.ofInt 3) with
    | true =>
      have z3 : (rkk T n p) ≠ 3 := nq_net (a := (rkk T n p)) (b := 3) (by omega) (by omega) c3
      have yc3 := mt (rk3 (T := T) (n := n) (p := p)).mpr z3
      refine xq_n 27 [0] [(0, .ref 39)] [.ref 39] h [false, true] 14 hq rfl ⟨(show xe_c .ne (xg 0 h.2.1 47 ((xg 0 h.2.1 39 28).toNatClampNeg)) (Int32.ofInt 2) = false by rw [show (xg 0 h.2.1 47 ((xg 0 h.2.1 39 28).toNatClampNeg)) = (nI ty) from (by rw [show (xg 0 h.2.1 39 28) = (nI (fs.length - 1)) from rr0.2.2.2.2.2.2.2.1, show ((nI (fs.length - 1)).toNatClampNeg) = (fs.length - 1) from nI_clamp (by omega)]; exact e47)]; exact c1), (show xe_c .ne (xg 0 h.2.1 39 9) (Int32.ofInt 3) = true by rw [show (xg 0 h.2.1 39 9) = (nI (rkk T n p)) from rt.2.1]; exact c3), trivial⟩ (fun hq => ?_)
      have er : bg T n mem nn NW p o fs = bo T n mem nn NW p o fs := by
        unfold bg
        first | rw [if_pos ⟨hh.mpr (by omega), by omega⟩] | rw [if_neg (by rintro ⟨e1, e2⟩; have := hh.mp e1; omega)]
      have ev : vbg T n nn NW sv NV p fs ds one = vbo T n nn NW sv NV p ds one := by unfold vbg; rw [if_neg (by rintro ⟨e1, e2⟩; have := hh.mp e1; omega)]
      refine xq_run hq rfl rfl (xq_and (bo_q rr0 hq) (bo_d s4 dt d45 dn rr0 hq)) ?_
      rintro v4 h4 ⟨⟨g4, l4, q4⟩, dq4⟩
      have hq := fx_q g4 hq
      rw [er, ev]
      have hv4 : ∃ x, v4 = some (.int x) := by
        cases hr4 : (bo T n mem nn NW p o fs) with
        | inl s => obtain ⟨a1, a2, a3, a4⟩ := s; exact ⟨1, (l4 _ _ _ _ hr4).1⟩
        | inr e => obtain ⟨a1, a2⟩ := e; exact ⟨0, (q4 _ _ hr4).1⟩
      obtain ⟨x4, rfl⟩ := hv4
      exact xq_ret rfl rfl rfl dq4
    | false =>
      have z3 : (rkk T n p) = 3 := nq_nef (a := (rkk T n p)) (b := 3) (by omega) (by omega) c3
      have yc3 := (rk3 (T := T) (n := n) (p := p)).mp z3
      refine xq_n 22 [0] [(0, .ref 39)] [.ref 39] h [false, false] 14 hq rfl ⟨(show xe_c .ne (xg 0 h.2.1 47 ((xg 0 h.2.1 39 28).toNatClampNeg)) (Int32.ofInt 2) = false by rw [show (xg 0 h.2.1 47 ((xg 0 h.2.1 39 28).toNatClampNeg)) = (nI ty) from (by rw [show (xg 0 h.2.1 39 28) = (nI (fs.length - 1)) from rr0.2.2.2.2.2.2.2.1, show ((nI (fs.length - 1)).toNatClampNeg) = (fs.length - 1) from nI_clamp (by omega)]; exact e47)]; exact c1), (show xe_c .ne (xg 0 h.2.1 39 9) (Int32.ofInt 3) = false by rw [show (xg 0 h.2.1 39 9) = (nI (rkk T n p)) from rt.2.1]; exact c3), trivial⟩ (fun hq => ?_)
      have er : bg T n mem nn NW p o fs = bi T n mem nn NW p o fs := by
        unfold bg
        first | rw [if_pos ⟨hh.mpr (by omega), by omega⟩] | rw [if_neg (by rintro ⟨e1, e2⟩; have := hh.mp e1; omega)]
      have ev : vbg T n nn NW sv NV p fs ds one = vbi T n nn NW sv NV p ds one := by unfold vbg; rw [if_pos ⟨hh.mpr (by omega), by omega⟩]
      refine xq_run hq rfl rfl (xq_and (bi_q rr0 (by omega) hq) (bi_d s4 dt d45 dn rr0 (by omega) hq)) ?_
      rintro v5 h5 ⟨⟨g5, l5, q5⟩, dq5⟩
      have hq := fx_q g5 hq
      rw [er, ev]
      have hv5 : ∃ x, v5 = some (.int x) := by
        cases hr5 : (bi T n mem nn NW p o fs) with
        | inl s => obtain ⟨a1, a2, a3, a4⟩ := s; exact ⟨1, (l5 _ _ _ _ hr5).1⟩
        | inr e => obtain ⟨a1, a2⟩ := e; exact ⟨0, (q5 _ _ hr5).1⟩
      obtain ⟨x5, rfl⟩ := hv5
      exact xq_ret rfl rfl rfl dq5
end XDB
end
