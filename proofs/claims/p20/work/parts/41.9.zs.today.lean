section XPT
/-- the same, if it carries the same -/
theorem tw_c {W W' : Nat → Bool} {m a s : Nat} (e : ∀ s, s < 2 ^ m → W s = W' s) (ha : a < m) (hs : s < 2 ^ m) : tw W a s = tw W' a s := by
  unfold tw
  rw [e s hs, e _ (or_p hs ha)]
theorem tg_c {W W' : Nat → Bool} {m a b s : Nat} (e : ∀ s, s < 2 ^ m → W s = W' s) (ha : a < m) (hb : b < m) (hs : s < 2 ^ m) : tg W a b s = tg W' a b s := by
  unfold tg
  rw [e _ (or_p (or_p hs ha) hb), e _ (or_p hs ha), e _ (or_p hs hb)]
theorem gp_c {W W' : Nat → Bool} {m a b s : Nat} (e : ∀ s, s < 2 ^ m → W s = W' s) (ha : a < m) (hb : b < m) (hs : s < 2 ^ m) : gp W a b s = gp W' a b s := by
  unfold gp
  rw [e _ (or_p hs ha), e _ (or_p hs hb)]
theorem dz_c {W W' : Nat → Bool} {m s : Nat} {hd : Bool} (e : ∀ s, s < 2 ^ m → W s = W' s) (hs : s < 2 ^ m) : dz W m hd s = dz W' m hd s := by
  unfold dz
  rw [e s hs, e _ co_lt]
theorem mi_c {W W' : Nat → Bool} {m s : Nat} {hd : Bool} (e : ∀ s, s < 2 ^ m → W s = W' s) (hs : s < 2 ^ m) : mi W m hd s = mi W' m hd s := by
  unfold mi
  rw [dz_c e hs]
  congr 1
  exact aln_c m (fun a _ => by rw [dz_c e (rmb_lt hs)])
theorem qk_c {P P' : Nat → Bool} {k t : Nat} (e : P t = P' t) : qk P k t = qk P' k t := by unfold qk; rw [e]
theorem cum_c {P P' : Nat → Bool} {N : Nat} (e : ∀ s, s < N → P s = P' s) : ∀ j, cum P N j = cum P' N j := by
  intro j
  induction j with
  | zero => rfl
  | succ j ih =>
    show cum P N j + cnt (qk P j) N = cum P' N j + cnt (qk P' j) N
    rw [ih, cnt_c N (fun k hk' => qk_c (e k hk'))]
theorem rk_c {P P' : Nat → Bool} {N t : Nat} (e : ∀ s, s < N → P s = P' s) (ht : t < N) : rk P N t = rk P' N t := by
  unfold rk
  rw [cum_c e, cnt_c t (fun k hk' => qk_c (e k (by omega)))]
theorem lcn_c {P P' : Nat → Bool} {N : Nat} (e : ∀ s, s < N → P s = P' s) : lcn P N = lcn P' N := by unfold lcn; rw [cnt_c N e]
theorem rwQ_c {P P' : Nat → Bool} {N c : Nat} {h : xh_H} (e : ∀ s, s < N → P s = P' s) (R : rwQ P N c h) : rwQ P' N c h := fun t h1 h2 h3 => by
  rw [← rk_c e h1] at h3 ⊢
  exact R t h1 ((e t h1).trans h2) h3
theorem PD_W {W W' : Nat → Bool} {m : Nat} {h : xh_H} (e : ∀ s, s < 2 ^ m → W s = W' s) (P : PD W m h) : PD W' m h := by
  obtain ⟨p1, p2, ⟨p3, p4⟩, ⟨p5, p6⟩, p7, p8⟩ := P
  have l0 : ∀ hd, lcn (mi W m hd) (2 ^ m) = lcn (mi W' m hd) (2 ^ m) := fun hd => lcn_c (fun s hs => mi_c e hs)
  rw [l0] at p3 p5 p7 p8
  refine ⟨fun a ha => ?_, fun a ha => ?_, ⟨p3, rwQ_c (fun s hs => mi_c e hs) p4⟩, ⟨p5, rwQ_c (fun s hs => mi_c e hs) p6⟩, p7, p8⟩
  · rw [← cnt_c (2 ^ m) (fun s hs => tw_c e ha hs)]; exact p1 a ha
  · rw [p2 a ha, msk_c m (fun b hb => aln_c (2 ^ m) (fun s hs => gp_c e ha hb hs))]
theorem Yf_q {h h' : xh_H} (hi : a_inv a_tb h) (hn : 72 ≤ h.1.length) (Y : Yf h h') : a_rq a_tb h' := by
  have hq := a_rq_of hi.1 hn
  refine ⟨by rw [Y.1]; exact hq.1, fun c s hs => by rw [Y.1]; exact hq.2.1 c s hs, fun c k ci t h1 h2 => ?_⟩
  by_cases z : c = 14 ∧ k = 6
  · obtain ⟨rfl, rfl⟩ := z
    cases h1
    cases h2
  · rw [Y.2.2.2 c k (by omega)]; exact hq.2.2 c k ci t h1 h2
/-- what a statute carries with m members -/
def lw (h : xh_H) (q m s : Nat) : Bool := if q = 11 then decide (s = 2 ^ m - 1) else hv h ((xg none h.2.2.2 q 1).getD 0) s
/-- Powers fits its statute and its members -/
def PI (h : xh_H) : Prop := (∀ q, xg none h.2.2.2 14 6 = some q → q ≠ 11 → ∃ r, xg none h.2.2.2 q 1 = some r ∧ r ≠ 12) ∧ ∀ q m, xg none h.2.2.2 14 6 = some q → xg 0 h.2.1 14 7 = nI m → 1 ≤ m → m ≤ 12 → PD (lw h q m) m h
theorem PI_s {h h' : xh_H} (i : a_inv a_tb h) (l : 72 ≤ h.1.length) (F3 : ∀ c k, h.1[c]? = some (4, 64) → c ≠ 12 → xg 0 h'.2.2.1 c k = xg 0 h.2.2.1 c k) (F5 : ∀ c k, h.1[c]? = some (0, 7) → xg none h'.2.2.2 c k = xg none h.2.2.2 c k) (e6 : xg none h'.2.2.2 14 6 = xg none h.2.2.2 14 6) (e : ∀ c k, (c = 14 ∧ (k = 7 ∨ (9 ≤ k ∧ k ≤ 12))) ∨ c = 15 ∨ c = 16 ∨ c = 17 ∨ c = 19 → xg 0 h'.2.1 c k = xg 0 h.2.1 c k) (P : PI h) : PI h' := by
  have hq := a_rq_of i.1 l
  obtain ⟨q', e', rq⟩ : a_e h 14 6 (2, 11, 0) := ((i.1 14 (0, 2) (hq.2.1 14 (0, 2) rfl)).2 6 (by decide))
  obtain ⟨s1, r, s2, s3⟩ := law_sh i.1 rq
  refine ⟨fun q h1 z => ?_, fun q m h1 h2 m1 m12 => ?_⟩
  · rw [e6, e'] at h1
    cases h1
    rw [F5 _ 1 s1]
    exact P.1 _ e' z
  rw [e6, e'] at h1
  cases h1
  rw [e 14 7 (by omega)] at h2
  have p := PD_c (h' := h') (fun c k z => e c k (by omega)) (P.2 q' m e' h2 m1 m12)
  refine PD_W (fun s hs => ?_) p
  unfold lw
  by_cases z : q' = 11
  · rw [if_pos z, if_pos z]
  · obtain ⟨r', y1, y2⟩ := P.1 q' e' z
    rw [s2] at y1
    cases y1
    rw [if_neg z, if_neg z, F5 q' 1 s1, s2]
    exact (hv_ee (fun k => F3 r k s3 y2)).symm
theorem PI_of {W : Nat → Bool} {m q r : Nat} {h : xh_H} (A : LA W m q r h) (P : PD W m h) (m1 : 1 ≤ m) (m12 : m ≤ 12) (r12 : q ≠ 11 → r ≠ 12) (u : q = 11 → ∀ s, s < 2 ^ m → W s = decide (s = 2 ^ m - 1)) : PI h := by
  refine ⟨fun q' h1 z => ?_, fun q' m' h1 h2 _ m12' => ?_⟩
  · rw [A.1] at h1
    cases h1
    exact ⟨r, A.2.2.1, r12 z⟩
  rw [A.1] at h1
  cases h1
  rw [A.2.2.2.2.1] at h2
  have := congrArg Int32.toInt h2
  rw [nI_toInt (by omega), nI_toInt (by omega)] at this
  have e : m' = m := by omega
  subst e
  refine PD_W (fun s hs => ?_) P
  unfold lw
  by_cases z : q = 11
  · rw [if_pos z]; exact u z s hs
  · rw [if_neg z, A.2.2.1]
    exact (A.2.2.2.2.2.2 s hs).symm
/-- the cells of Powers are not among these -/
def pwM (md : List (Nat × Nat)) : Bool := !a_mb md 14 7 && (!a_mb md 14 9 && (!a_mb md 14 10 && (!a_mb md 14 11 && (!a_mb md 14 12 && (!a_mb md 15 0 && (!a_mb md 16 0 && (!a_mb md 17 0 && !a_mb md 19 0)))))))
theorem pw_e {md : List (Nat × Nat)} {h h' : xh_H} (f : a_fr md h h') (m : pwM md = true) : ∀ c k, (c = 14 ∧ (k = 7 ∨ (9 ≤ k ∧ k ≤ 12))) ∨ c = 15 ∨ c = 16 ∨ c = 17 ∨ c = 19 → xg 0 h'.2.1 c k = xg 0 h.2.1 c k := by
  unfold pwM at m
  simp only [Bool.and_eq_true, Bool.not_eq_true'] at m
  obtain ⟨m1, m2, m3, m4, m5, m6, m7, m8, m9⟩ := m
  intro c k z
  rcases z with ⟨rfl, z⟩ | rfl | rfl | rfl | rfl
  · have : k = 7 ∨ k = 9 ∨ k = 10 ∨ k = 11 ∨ k = 12 := by omega
    rcases this with rfl | rfl | rfl | rfl | rfl
    · exact fr_g f rfl m1
    · exact fr_g f rfl m2
    · exact fr_g f rfl m3
    · exact fr_g f rfl m4
    · exact fr_g f rfl m5
  · exact fr_g f rfl m6
  · exact fr_g f rfl m7
  · exact fr_g f rfl m8
  · exact fr_g f rfl m9
theorem PI_t {md : List (Nat × Nat)} {h h' : xh_H} (i : a_inv a_tb h) (l : 72 ≤ h.1.length) (F : Fs 8 h h') (Z : Qz h h') (f : a_fr md h h') (m : pwM md = true) (P : PI h) : PI h' := PI_s i l (fun c k e _ => F.2.2.1 c k e) F.2.2.2.2.1 (Z.2 14 6 (by rw [(a_rq_of i.1 l).2.1 14 _ rfl]; decide)) (pw_e f m) P
theorem PI_2 {md1 md2 : List (Nat × Nat)} {h h1 h2 : xh_H} (i : a_inv a_tb h) (l : 72 ≤ h.1.length) (i1 : a_inv a_tb h1) (l1 : 72 ≤ h1.1.length) (F1 : Fz h h1) (Z1 : Qz h h1) (f1 : a_fr md1 h h1) (m1 : pwM md1 = true) (F2 : Fz h1 h2) (Z2 : Qz h1 h2) (f2 : a_fr md2 h1 h2) (m2 : pwM md2 = true) (P : PI h) : PI h2 := PI_t i1 l1 (Fs_z (a_rq_of i1.1 l1) F2) Z2 f2 m2 (PI_t i l (Fs_z (a_rq_of i.1 l) F1) Z1 f1 m1 P)
/-- behind a new statute -/
theorem PI_c {md : List (Nat × Nat)} {sc : Nat} {h h' : xh_H} (i : a_inv a_tb h) (l : 72 ≤ h.1.length) (c : cst h h' sc) (f : a_fr md h h') (m : pwM md = true) (P : PI h) : PI h' := by
  have F := Fs_c (a_rq_of i.1 l) c
  exact PI_s i l (fun c k e _ => F.2.2.1 c k e) F.2.2.2.2.1 (c.2.1 14 6 (by omega) (fun z => absurd z (by decide))) (pw_e f m) P
/-- behind members -/
theorem PI_m {b : Bool} {R : Prop} {h h' : xh_H} (i : a_inv a_tb h) (l : 72 ≤ h.1.length) (q : (b = false → h' = h) ∧ (b = true → fx m09 (Lr 12) h h' ∧ R)) (P : PI h) : PI h' := by
  cases b with
  | false => rw [q.1 rfl]; exact P
  | true =>
    obtain ⟨g, -⟩ := q.2 rfl
    refine PI_s i l (fun c k _ z => g.2.2.2 c k ?_) (fun c k _ => by rw [g.2.1]) (by rw [g.2.1]) (fun c k z => fx_i g ?_) P
    · exact nbeq_f z
    · unfold m09
      rw [nbeq_f (by omega)]
      rfl
set_option maxRecDepth 100000 in
set_option maxHeartbeats 4000000 in
/-- X9.powersToday -/
theorem pt9_q {f mem sc : Nat} {d : Int32} {h : xh_H} (hi : a_inv a_tb h) (hn : 72 ≤ h.1.length) (e9 : xg 0 h.2.1 0 9 = nI mem) (m1 : 1 ≤ mem) (m12 : mem ≤ 12) (e8 : xg 0 h.2.1 0 8 = nI sc) (sc8 : sc ≤ 8) (e10 : xg 0 h.2.1 0 10 = d) (si : SI h) (pi : PI h) : xq f xi_X9_powersToday xmi_X9_powersToday 0 [(0, .ref 0)] [] h (fun v h' => v = some (.ref 14) ∧ Yf h h' ∧ PI h' ∧ ∃ q r, LA (cvB (fun k => xg 0 h.2.1 51 k) (fun k => xg 0 h.2.1 44 k) mem sc d) mem q r h' ∧ PD (cvB (fun k => xg 0 h.2.1 51 k) (fun k => xg 0 h.2.1 44 k) mem sc d) mem h') := by
  have hq := a_rq_of hi.1 hn
  have p12 : 2 ^ mem ≤ 4096 := show 2 ^ mem ≤ 2 ^ 12 from Nat.pow_le_pow_right (by decide) m12
  obtain ⟨⟨u1, u2, u3⟩, si⟩ := si
  obtain ⟨SS, un⟩ := si mem sc e9 m12 e8 sc8
  refine xq_n 9 [0] [(0, .ref 0)] [.int (xg 0 h.2.1 0 10), .ref 0, .ref 14] h [] 60 hq rfl trivial (fun _ => ?_)
  rw [e10]
  refine xq_run hq rfl rfl (if9_q hi e8 sc8 u1 u2 SS hq) ?_
  rintro v h1 ⟨rfl, Q, rfl, fd⟩
  refine xq_n 16 [0] [(0, .ref 0)] [.int (xg 0 h.2.1 0 9), .ref Q, .ref 14] h [] 60 hq rfl trivial (fun _ => ?_)
  rw [e9]
  obtain ⟨l, hl, l2⟩ : a_e h 14 6 (2, 11, 0) := ((hi.1 14 (0, 2) (hq.2.1 14 (0, 2) rfl)).2 6 (by decide))
  obtain ⟨r, g1, g2, -⟩ := hv_cv hi m12 SS un u3 hq (s := 0) (Nat.two_pow_pos mem) fd
  have hW : ∀ s, s < 2 ^ mem → hv h r s = cvB (fun k => xg 0 h.2.1 51 k) (fun k => xg 0 h.2.1 44 k) mem sc d s := fun s hs => by
    obtain ⟨r', g1', -, g3⟩ := hv_cv hi m12 SS un u3 hq hs fd
    rw [g1] at g1'
    cases g1'
    exact g3
  have hu : Q = 11 → ∀ s, s < 2 ^ mem → cvB (fun k => xg 0 h.2.1 51 k) (fun k => xg 0 h.2.1 44 k) mem sc d s = decide (s = 2 ^ mem - 1) := fun z s hs => by
    rw [z, u3] at g1
    cases g1
    rw [← hW s hs]
    exact un s (by omega)
  have r12 : Q ≠ 11 → r ≠ 12 := fun z => by
    rcases fd with ⟨f0, ⟨f1, f2, f3⟩ | ⟨j, f1, f2, f3⟩⟩
    · exact absurd f2 z
    · obtain ⟨q, q72, qe, ql, q1, q2, -⟩ := SS j (iF_lt f1)
      rw [q1] at f2
      obtain rfl : q = Q := Option.some.inj f2
      rw [g1] at q2
      have := Option.some.inj q2
      omega
  have rQ : a_r h.1.length 11 Q := by
    rcases fd with ⟨f0, ⟨f1, f2, f3⟩ | ⟨j, f1, f2, f3⟩⟩
    · rw [f2]; exact ⟨by omega, rfl⟩
    · obtain ⟨q, q72, qe, ql, q1, -⟩ := SS j (iF_lt f1)
      rw [q1] at f2
      obtain rfl : q = Q := Option.some.inj f2
      refine ⟨by omega, ?_⟩
      unfold a_tg
      rw [show Nat.blt q 72 = false by cases y : Nat.blt q 72 with | false => rfl | true => (have := Nat.le_of_ble_eq_true y; omega), qe]
      rfl
  refine xq_run hq rfl rfl (stu_q (r := r) hi hn hl rQ fd.1 g1 g2 m1 m12 hW (fun e e7 => ?_)) ?_
  · subst e
    have J := hi.2.1
    rw [e7, nI_toInt (by omega)] at J
    refine ⟨Int32.toInt_inj.mp ?_, PD_W (fun s hs => ?_) (pi.2 l mem hl e7 m1 m12)⟩
    · have := Nat.two_pow_pos mem
      rw [J, nI_toInt (by omega)]
      show ((2 ^ (mem : Int).toNat : Nat) : Int) - 1 = _
      rw [Int.toNat_natCast]
      omega
    · unfold lw
      by_cases z : l = 11
      · rw [if_pos z]; exact (hu z s hs).symm
      · rw [if_neg z, g1]; exact hW s hs
  · rintro v h2 ⟨rfl, A, P, Y⟩
    have hq2 : a_rq a_tb h2 := Yf_q hi hn Y
    refine xq_n 23 [] [] [.ref 14] h2 [] 60 hq2 rfl trivial (fun _ => ?_)
    exact xq_ret rfl rfl rfl ⟨rfl, Y, PI_of A P m1 m12 r12 hu, Q, r, A, P⟩
set_option maxRecDepth 100000 in
set_option maxHeartbeats 4000000 in
theorem tu9_q {f mem sc : Nat} {x d : Int32} {h : xh_H} (hi : a_inv a_tb h) (hn : 72 ≤ h.1.length) (e9 : xg 0 h.2.1 0 9 = nI mem) (m1 : 1 ≤ mem) (m12 : mem ≤ 12) (e8 : xg 0 h.2.1 0 8 = nI sc) (sc8 : sc ≤ 8) (e10 : xg 0 h.2.1 0 10 = d) (si : SI h) (pi : PI h) : xq f xi_X9_turns xmi_X9_turns 0 [(0, .ref 0), (1, .int x)] [] h (fun v h' => v = some (.int (tuA (cvB (fun k => xg 0 h.2.1 51 k) (fun k => xg 0 h.2.1 44 k) mem sc d) mem x)) ∧ PI h') := by
  have hq := a_rq_of hi.1 hn
  refine xq_n 2 [0, 1] [(0, .ref 0), (1, .int x)] [.int x, .ref 0] h [] 60 hq rfl trivial (fun _ => ?_)
  refine xq_run hq rfl rfl (mem9_q (z := nI mem) e9 hq) ?_
  rintro v h1 ⟨rfl, rfl⟩
  unfold tuA isM
  cases c1 : (!xe_c .lt x 0 && !xe_c .ge x (nI mem)) with
  | false =>
    refine xq_n 21 [] [] [.int (Int32.ofInt (-1))] h [true] 60 hq rfl ⟨rfl, trivial⟩ (fun _ => ?_)
    exact xq_ret rfl rfl rfl ⟨rfl, pi⟩
  | true =>
    obtain ⟨a, rfl, al, ea⟩ := mb_n m12 c1
    rw [ea]
    refine xq_n 9 [1] [(1, .int (nI a))] [.ref 0] h [false] 60 hq rfl ⟨rfl, trivial⟩ (fun _ => ?_)
    refine xq_run hq rfl rfl (pt9_q hi hn e9 m1 m12 e8 sc8 e10 si pi) ?_
    rintro v h1 ⟨rfl, Y, PP, q, r, A, P⟩
    have hq1 := Yf_q hi hn Y
    refine xq_n 21 [] [] [.int (xg 0 h1.2.1 17 (nI a).toNatClampNeg)] h1 [] 60 hq1 rfl trivial (fun _ => ?_)
    exact xq_ret rfl rfl rfl ⟨by rw [nI_clamp (by omega), P.1 a al]; rfl, PP⟩
set_option maxRecDepth 100000 in
set_option maxHeartbeats 4000000 in
theorem al9_q {f mem sc : Nat} {x d : Int32} {h : xh_H} (hi : a_inv a_tb h) (hn : 72 ≤ h.1.length) (e9 : xg 0 h.2.1 0 9 = nI mem) (m1 : 1 ≤ mem) (m12 : mem ≤ 12) (e8 : xg 0 h.2.1 0 8 = nI sc) (sc8 : sc ≤ 8) (e10 : xg 0 h.2.1 0 10 = d) (si : SI h) (pi : PI h) : xq f xi_X9_ally xmi_X9_ally 0 [(0, .ref 0), (1, .int x)] [] h (fun v h' => v = some (.int (alA (cvB (fun k => xg 0 h.2.1 51 k) (fun k => xg 0 h.2.1 44 k) mem sc d) mem x)) ∧ PI h') := by
  have hq := a_rq_of hi.1 hn
  refine xq_n 2 [0, 1] [(0, .ref 0), (1, .int x)] [.int x, .ref 0] h [] 60 hq rfl trivial (fun _ => ?_)
  refine xq_run hq rfl rfl (mem9_q (z := nI mem) e9 hq) ?_
  rintro v h1 ⟨rfl, rfl⟩
  unfold alA isM
  cases c1 : (!xe_c .lt x 0 && !xe_c .ge x (nI mem)) with
  | false =>
    refine xq_n 20 [] [] [.int (Int32.ofInt (-1))] h [true] 60 hq rfl ⟨rfl, trivial⟩ (fun _ => ?_)
    exact xq_ret rfl rfl rfl ⟨rfl, pi⟩
  | true =>
    obtain ⟨a, rfl, al, ea⟩ := mb_n m12 c1
    rw [ea]
    refine xq_n 9 [1] [(1, .int (nI a))] [.ref 0] h [false] 60 hq rfl ⟨rfl, trivial⟩ (fun _ => ?_)
    refine xq_run hq rfl rfl (pt9_q hi hn e9 m1 m12 e8 sc8 e10 si pi) ?_
    rintro v h1 ⟨rfl, Y, PP, q, r, A, P⟩
    have hq1 := Yf_q hi hn Y
    refine xq_n 13 [] [] [.int (nI a), .ref 14] h1 [] 60 hq1 rfl trivial (fun _ => ?_)
    refine xq_run hq1 rfl rfl (alo_q A m12 al hq1) ?_
    rintro v h2 ⟨rfl, rfl⟩
    refine xq_n 20 [] [] [.int (alf (fun b => cnt (tg (cvB (fun k => xg 0 h.2.1 51 k) (fun k => xg 0 h.2.1 44 k) mem sc d) a b) (2 ^ mem)) a mem).1] h1 [] 60 hq1 rfl trivial (fun _ => ?_)
    exact xq_ret rfl rfl rfl ⟨rfl, PP⟩
set_option maxRecDepth 100000 in
set_option maxHeartbeats 4000000 in
/-- Powers.compare -/
theorem cmp_q {f a b m : Nat} {W : Nat → Bool} {h : xh_H} (m12 : m ≤ 12) (P : PD W m h) (ha : a < m) (hb : b < m) (hq : a_rq a_tb h) : xq f xi_X2_compare xmi_X2_compare 0 [(0, .ref 14), (1, .int (nI a)), (2, .int (nI b))] [] h (fun v h' => h = h' ∧ v = some (.int (cmv (aln (gp W a b) (2 ^ m)) (aln (gp W b a) (2 ^ m))))) := by
  have bt : ∀ x y, x < m → y < m → (xg 0 h.2.1 19 (nI x).toNatClampNeg >>> (nI y &&& 31)) &&& Int32.ofInt 1 = bl (aln (gp W x y) (2 ^ m)) := fun x y hx hy => by
    rw [nI_clamp (by omega), P.2.1 x hx]
    have l := msk_lt (f := fun b => aln (gp W x b) (2 ^ m)) m
    have p12 : 2 ^ m ≤ 4096 := show 2 ^ m ≤ 2 ^ 12 from Nat.pow_le_pow_right (by decide) m12
    rw [nI_b0 (by omega) (by omega), msk_tb, decide_eq_true hy, Bool.true_and, bl_nI]
  have g1 := be' (bt a b ha hb)
  have g2 := be' (bt b a hb ha)
  cases c1 : aln (gp W a b) (2 ^ m) with
  | true =>
    rw [c1] at g1
    cases c2 : aln (gp W b a) (2 ^ m) with
    | true =>
      rw [c2] at g2
      refine xq_n 53 [] [] [.int (Int32.ofInt 0)] h [false, false, false, false] 60 hq rfl ⟨g1, g2, rfl, rfl, trivial⟩ (fun _ => ?_)
      exact xq_ret rfl rfl rfl ⟨rfl, rfl⟩
    | false =>
      rw [c2] at g2
      refine xq_n 53 [] [] [.int (Int32.ofInt 1)] h [false, true, false, true] 60 hq rfl ⟨g1, g2, rfl, rfl, trivial⟩ (fun _ => ?_)
      exact xq_ret rfl rfl rfl ⟨rfl, rfl⟩
  | false =>
    rw [c1] at g1
    cases c2 : aln (gp W b a) (2 ^ m) with
    | true =>
      rw [c2] at g2
      refine xq_n 64 [] [] [.int (Int32.ofInt (-1))] h [true, false, true, false] 60 hq rfl ⟨g1, g2, rfl, rfl, trivial⟩ (fun _ => ?_)
      exact xq_ret rfl rfl rfl ⟨rfl, rfl⟩
    | false =>
      rw [c2] at g2
      refine xq_n 64 [] [] [.int (Int32.ofInt 2)] h [true, true, true, true] 60 hq rfl ⟨g1, g2, rfl, rfl, trivial⟩ (fun _ => ?_)
      exact xq_ret rfl rfl rfl ⟨rfl, rfl⟩
set_option maxRecDepth 100000 in
set_option maxHeartbeats 4000000 in
theorem sr9_q {f mem sc : Nat} {x y d : Int32} {h : xh_H} (hi : a_inv a_tb h) (hn : 72 ≤ h.1.length) (e9 : xg 0 h.2.1 0 9 = nI mem) (m1 : 1 ≤ mem) (m12 : mem ≤ 12) (e8 : xg 0 h.2.1 0 8 = nI sc) (sc8 : sc ≤ 8) (e10 : xg 0 h.2.1 0 10 = d) (si : SI h) (pi : PI h) : xq f xi_X9_stronger xmi_X9_stronger 0 [(0, .ref 0), (1, .int x), (2, .int y)] [] h (fun v h' => v = some (.int (srA (cvB (fun k => xg 0 h.2.1 51 k) (fun k => xg 0 h.2.1 44 k) mem sc d) mem x y)) ∧ PI h') := by
  have hq := a_rq_of hi.1 hn
  refine xq_n 2 [0, 1, 2] [(0, .ref 0), (1, .int x), (2, .int y)] [.int x, .ref 0] h [] 60 hq rfl trivial (fun _ => ?_)
  refine xq_run hq rfl rfl (mem9_q (z := nI mem) e9 hq) ?_
  rintro v h1 ⟨rfl, rfl⟩
  unfold srA
  cases c1 : isM x mem with
  | false =>
    unfold isM at c1
    rw [c1]
    refine xq_n 18 [] [] [.int (-2)] h [true] 60 hq rfl ⟨rfl, trivial⟩ (fun _ => ?_)
    exact xq_ret rfl rfl rfl ⟨rfl, pi⟩
  | true =>
    unfold isM at c1
    obtain ⟨a, rfl, al, ea⟩ := mb_n m12 c1
    rw [ea, c1]
    refine xq_n 10 [0, 1, 2] [(0, .ref 0), (1, .int (nI a)), (2, .int y)] [.int y, .ref 0] h [false] 60 hq rfl ⟨rfl, trivial⟩ (fun _ => ?_)
    refine xq_run hq rfl rfl (mem9_q (z := nI mem) e9 hq) ?_
    rintro v h1 ⟨rfl, rfl⟩
    cases c2 : isM y mem with
    | false =>
      unfold isM at c2
      rw [c2]
      refine xq_n 18 [] [] [.int (-2)] h [false] 60 hq rfl ⟨rfl, trivial⟩ (fun _ => ?_)
      exact xq_ret rfl rfl rfl ⟨rfl, pi⟩
    | true =>
      unfold isM at c2
      obtain ⟨b, rfl, bm, eb⟩ := mb_n m12 c2
      rw [eb, c2]
      refine xq_n 20 [1, 2] [(1, .int (nI a)), (2, .int (nI b))] [.ref 0] h [true] 60 hq rfl ⟨rfl, trivial⟩ (fun _ => ?_)
      refine xq_run hq rfl rfl (pt9_q hi hn e9 m1 m12 e8 sc8 e10 si pi) ?_
      rintro v h1 ⟨rfl, Y, PP, q, r, A, P⟩
      have hq1 := Yf_q hi hn Y
      refine xq_n 25 [] [] [.int (nI b), .int (nI a), .ref 14] h1 [] 60 hq1 rfl trivial (fun _ => ?_)
      refine xq_run hq1 rfl rfl (cmp_q m12 P al bm hq1) ?_
      rintro v h2 ⟨rfl, rfl⟩
      exact xq_ret rfl rfl rfl ⟨rfl, PP⟩
end XPT
