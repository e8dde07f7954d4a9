section XCV
def pwv (b : Int64) : Nat → Int64
  | 0 => 1
  | n + 1 => pwv b n * b
/-- how many, as a long -/
def cLg (P : Nat → Bool) : Nat → Int64
  | 0 => 0
  | n + 1 => if P n = true then cLg P n + 1 else cLg P n
def tA (x : Int32) (m i : Nat) : Int64 := pwv x.toInt64 i * pwv (10 - x).toInt64 (m - i)
def rs (W : Nat → Bool) (m : Nat) (x : Int32) : Nat → Int64
  | 0 => 0
  | s + 1 => if W s = true then rs W m x s + tA x m (sz s) else rs W m x s
def cs (c : Nat → Int64) (m : Nat) (x : Int32) : Nat → Int64
  | 0 => 0
  | i + 1 => cs c m x i + (c i * pwv x.toInt64 i) * pwv (10 - x).toInt64 (m - i)
theorem cs_0 {m : Nat} {x : Int32} : ∀ j, cs (fun _ => 0) m x j = 0 := by
  intro j
  induction j with
  | zero => rfl
  | succ j ih =>
    show cs (fun _ => 0) m x j + ((0 : Int64) * _) * _ = 0
    rw [ih, Int64.zero_mul, Int64.zero_mul]
    rfl
theorem cs_c {c c' : Nat → Int64} {m : Nat} {x : Int32} (e : ∀ i, c i = c' i) (j : Nat) : cs c m x j = cs c' m x j := by rw [show c = c' from funext e]
theorem cs_1 {c c' : Nat → Int64} {m k : Nat} {x : Int32} (e : ∀ i, c' i = if i = k then c i + 1 else c i) : ∀ j, cs c' m x j = if k < j then cs c m x j + tA x m k else cs c m x j := by
  intro j
  induction j with
  | zero => rw [if_neg (by omega)]; rfl
  | succ j ih =>
    show cs c' m x j + (c' j * _) * _ = _
    rw [ih, e j]
    show _ = if k < j + 1 then (cs c m x j + (c j * pwv x.toInt64 j) * pwv (10 - x).toInt64 (m - j)) + tA x m k else (cs c m x j + (c j * pwv x.toInt64 j) * pwv (10 - x).toInt64 (m - j))
    by_cases z : j = k
    · rw [if_pos z, if_neg (by omega), if_pos (by omega), Int64.add_mul, Int64.one_mul, Int64.add_mul, z]
      unfold tA
      rw [Int64.add_assoc]
    · rw [if_neg z]
      by_cases y : k < j
      · rw [if_pos y, if_pos (by omega), Int64.add_assoc, Int64.add_comm (tA x m k), ← Int64.add_assoc]
      · rw [if_neg y, if_neg (by omega)]
theorem cs_r {W : Nat → Bool} {m : Nat} {x : Int32} (m12 : m ≤ 12) : ∀ n, n ≤ 2 ^ m → cs (fun i => cLg (qk W i) n) m x (m + 1) = rs W m x n := by
  intro n
  induction n with
  | zero => intro _; exact cs_0 _
  | succ n ih =>
    intro h
    have s := sz_m m12 (show n < 2 ^ m by omega)
    have r := ih (by omega)
    show _ = if W n = true then rs W m x n + tA x m (sz n) else rs W m x n
    cases c : W n with
    | false =>
      rw [if_neg (by decide), ← r]
      exact cs_c (fun i => if_neg (by unfold qk; rw [c]; exact (fun z => by cases z))) _
    | true =>
      rw [if_pos rfl, ← r, cs_1 (c := fun i => cLg (qk W i) n) (k := sz n) (fun i => ?_), if_pos (by omega)]
      by_cases z : i = sz n
      · rw [if_pos z]; exact if_pos (by rw [z]; exact qk_s c)
      · rw [if_neg z]; exact if_neg (by unfold qk; rw [decide_eq_false (fun e => z e.symm), Bool.and_false]; decide)
set_option maxRecDepth 100000 in
set_option maxHeartbeats 4000000 in
/-- Powers.power -/
theorem pwc_l {x : Int32} {e : Nat} {h : xh_H} (e12 : e ≤ 12) (hq : a_rq a_tb h) : ∀ (n f i : Nat), i + n = e → xq f xi_X2_power xmi_X2_power 5 [(0, .int x), (1, .int (nI e)), (2, .long (pwv x.toInt64 i)), (4, .int (nI i))] [] h (fun v h' => h = h' ∧ v = some (.long (pwv x.toInt64 e))) := by
  intro n
  induction n with
  | zero =>
    intro f i hn
    have e0 : i = e := by omega
    subst e0
    refine xq_n 23 [] [] [.long (pwv x.toInt64 i)] h [true] 60 hq rfl ⟨nge_t (by omega) (by omega) (Nat.le_refl _), trivial⟩ (fun _ => ?_)
    exact xq_ret rfl rfl rfl ⟨rfl, rfl⟩
  | succ n ih =>
    intro f i hn
    refine xq_n 5 [0, 1, 2, 4] [(0, .int x), (1, .int (nI e)), (2, .long (pwv x.toInt64 i * x.toInt64)), (4, .int (nI i + Int32.ofInt 1))] [] h [false] 60 hq rfl ⟨nge_f (by omega) (by omega) (by omega), trivial⟩ (fun _ => ?_)
    rw [nI_1']
    exact ih f (i + 1) (by omega)
theorem pwc_q {f : Nat} {x : Int32} {e : Nat} {h : xh_H} (e12 : e ≤ 12) (hq : a_rq a_tb h) : xq f xi_X2_power xmi_X2_power 0 [(0, .int x), (1, .int (nI e))] [] h (fun v h' => h = h' ∧ v = some (.long (pwv x.toInt64 e))) := by
  refine xq_n 5 [0, 1, 2, 4] [(0, .int x), (1, .int (nI e)), (2, .long 1), (4, .int (Int32.ofInt 0))] [] h [] 60 hq rfl trivial (fun _ => ?_)
  exact pwc_l e12 hq e f 0 (by omega)
set_option maxRecDepth 100000 in
set_option maxHeartbeats 4000000 in
/-- X10.power -/
theorem pwr'_l {b : Int64} {e : Nat} {h : xh_H} (e12 : e ≤ 12) (hq : a_rq a_tb h) : ∀ (n f i : Nat), i + n = e → xq f xi_X10_power xmi_X10_power 5 [(0, .long b), (2, .int (nI e)), (3, .long (pwv b i)), (5, .int (nI i))] [] h (fun v h' => h = h' ∧ v = some (.long (pwv b e))) := by
  intro n
  induction n with
  | zero =>
    intro f i hn
    have e0 : i = e := by omega
    subst e0
    refine xq_n 22 [] [] [.long (pwv b i)] h [true] 60 hq rfl ⟨nge_t (by omega) (by omega) (Nat.le_refl _), trivial⟩ (fun _ => ?_)
    exact xq_ret rfl rfl rfl ⟨rfl, rfl⟩
  | succ n ih =>
    intro f i hn
    refine xq_n 5 [0, 2, 3, 5] [(0, .long b), (2, .int (nI e)), (3, .long (pwv b i * b)), (5, .int (nI i + Int32.ofInt 1))] [] h [false] 60 hq rfl ⟨nge_f (by omega) (by omega) (by omega), trivial⟩ (fun _ => ?_)
    rw [nI_1']
    exact ih f (i + 1) (by omega)
theorem pwr'_q {f : Nat} {b : Int64} {e : Nat} {h : xh_H} (e12 : e ≤ 12) (hq : a_rq a_tb h) : xq f xi_X10_power xmi_X10_power 0 [(0, .long b), (2, .int (nI e))] [] h (fun v h' => h = h' ∧ v = some (.long (pwv b e))) := by
  refine xq_n 5 [0, 2, 3, 5] [(0, .long b), (2, .int (nI e)), (3, .long 1), (5, .int (Int32.ofInt 0))] [] h [] 60 hq rfl trivial (fun _ => ?_)
  exact pwr'_l e12 hq e f 0 (by omega)
theorem LA_g {W : Nat → Bool} {m q r : Nat} {S L : Nat → Nat → Bool} {h h' : xh_H} (A : LA W m q r h) (g : fx S L h h') (e7 : S 14 7 = false) (e8 : S 14 8 = false) (hL : ∀ k, L r k = false) : LA W m q r h' := by
  obtain ⟨a1, a2, a3, a4, a5, a6, a7⟩ := A
  exact ⟨by rw [g.2.1]; exact a1, by rw [g.1]; exact a2, by rw [g.2.1]; exact a3, by rw [g.1]; exact a4, (fx_i g e7).trans a5, (fx_i g e8).trans a6, fun s hs => (hv_ee (fun k => g.2.2.2 r k (hL k))).trans (a7 s hs)⟩
theorem r20 {W : Nat → Bool} {m q r : Nat} {h : xh_H} (A : LA W m q r h) (hq : a_rq a_tb h) (k : Nat) : Lr 20 r k = false := nbeq_f (fun w => by
  have := A.2.2.2.1
  rw [w, hq.2.1 20 _ rfl] at this
  cases this)
section
variable {W : Nat → Bool} {m q r : Nat} {x : Int32} {hb : xh_H}
set_option maxRecDepth 100000 in
set_option maxHeartbeats 4000000 in
theorem cv_C (m12 : m ≤ 12) (e7 : xg 0 hb.2.1 14 7 = nI m) {c : Nat → Int64} (hc : ∀ i, i ≤ m → xg 0 hb.2.2.1 20 i = c i) (hq : a_rq a_tb hb) : ∀ (n f i : Nat), i + n = m + 1 → xq f xi_X2_chanceOf xmi_X2_chanceOf 68 [(0, .ref 14), (1, .int x), (2, .long (cs c m x i)), (4, .int (nI i))] [] hb (fun v h' => hb = h' ∧ v = some (.long (cs c m x (m + 1)))) := by
  intro n
  induction n with
  | zero =>
    intro f i hn
    have e : i = m + 1 := by omega
    subst e
    refine xq_n 116 [] [] [.long (cs c m x (m + 1))] hb [true] 60 hq rfl ⟨(show xe_c .gt (nI (m + 1)) (xg 0 hb.2.1 14 7) = true by rw [e7]; exact xgt_t (by rw [nI_toInt (by omega), nI_toInt (by omega)]; omega)), trivial⟩ (fun _ => ?_)
    exact xq_ret rfl rfl rfl ⟨rfl, rfl⟩
  | succ n ih =>
    intro f i hn
    refine xq_n 88 [0, 1, 2, 4] [(0, .ref 14), (1, .int x), (2, .long (cs c m x i)), (4, .int (nI i))] [.int (nI i), .int x, .long (xg 0 hb.2.2.1 20 (nI i).toNatClampNeg), .long (cs c m x i)] hb [false] 60 hq rfl ⟨(show xe_c .gt (nI i) (xg 0 hb.2.1 14 7) = false by rw [e7]; exact xgt_f (by rw [nI_toInt (by omega), nI_toInt (by omega)]; omega)), trivial⟩ (fun _ => ?_)
    rw [nI_clamp (by omega), hc i (by omega)]
    refine xq_run hq rfl rfl (pwc_q (by omega) hq) ?_
    rintro v h1 ⟨rfl, rfl⟩
    refine xq_n 103 [0, 1, 2, 4] [(0, .ref 14), (1, .int x), (2, .long (cs c m x i)), (4, .int (nI i))] [.int (xg 0 hb.2.1 14 7 - nI i), .int (10 - x), .long (c i * pwv x.toInt64 i), .long (cs c m x i)] hb [] 60 hq rfl trivial (fun _ => ?_)
    rw [e7, nI_sub (by omega)]
    refine xq_run hq rfl rfl (pwc_q (by omega) hq) ?_
    rintro v h1 ⟨rfl, rfl⟩
    refine xq_n 68 [0, 1, 2, 4] [(0, .ref 14), (1, .int x), (2, .long (cs c m x i + (c i * pwv x.toInt64 i) * pwv (10 - x).toInt64 (m - i))), (4, .int (nI i + Int32.ofInt 1))] [] hb [] 60 hq rfl trivial (fun _ => ?_)
    rw [nI_1']
    exact ih f (i + 1) (by omega)
set_option maxRecDepth 100000 in
set_option maxHeartbeats 4000000 in
theorem cv_B (A : LA W m q r hb) (m12 : m ≤ 12) (hq0 : a_rq a_tb hb) : ∀ (n f s : Nat) (h : xh_H), s + n = 2 ^ m → a_rq a_tb h → fx fN (Lr 20) hb h → (∀ i, i ≤ m → xg 0 h.2.2.1 20 i = cLg (qk W i) s) → xq f xi_X2_chanceOf xmi_X2_chanceOf 25 [(0, .ref 14), (1, .int x), (2, .int (nI s))] [] h (fun v h' => fx fN (Lr 20) hb h' ∧ v = some (.long (rs W m x (2 ^ m)))) := by
  have p12 : 2 ^ m ≤ 4096 := show 2 ^ m ≤ 2 ^ 12 from Nat.pow_le_pow_right (by decide) m12
  intro n
  induction n with
  | zero =>
    intro f s h hn hq ge w
    have e : s = 2 ^ m := by omega
    subst e
    have A' := LA_g A ge rfl rfl (r20 A hq0)
    refine xq_n 68 [0, 1, 2, 4] [(0, .ref 14), (1, .int x), (2, .long 0), (4, .int (Int32.ofInt 0))] [] h [true] 60 hq rfl ⟨gtt A' m12, trivial⟩ (fun _ => ?_)
    refine xq_mono (cv_C (c := fun i => cLg (qk W i) (2 ^ m)) m12 A'.2.2.2.2.1 w hq (m + 1) f 0 (by omega)) (fun v h' e => ?_)
    obtain ⟨rfl, e⟩ := e
    exact ⟨ge, by rw [e, cs_r m12 _ (Nat.le_refl _)]⟩
  | succ n ih =>
    intro f s h hn hq ge w
    have hs : s < 2 ^ m := by omega
    have A' := LA_g A ge rfl rfl (r20 A hq0)
    refine xq_n 38 [0, 1, 2] [(0, .ref 14), (1, .int x), (2, .int (nI s))] [.int (nI s), va_rf (xg none h.2.2.2 14 6)] h [false] 60 hq rfl ⟨gtf A' m12 hs, trivial⟩ (fun _ => ?_)
    rw [A'.1]
    refine xq_cr (As := [.ref q, .int (nI (s))]) (mj := xmi_X7_holds) (q := []) rfl rfl (fun _ _ => rfl) (xa_cs_ok (d := 0) (pc := 0) (lv := []) (nL := 0) A'.2.1 rfl).1 (fun f => hl_q A' m12 (hs) hq) ?_
    rintro v h1 ⟨rfl, rfl⟩
    cases c : W s with
    | false =>
      refine xq_n 25 [0, 1, 2] [(0, .ref 14), (1, .int x), (2, .int (nI s + Int32.ofInt 1))] [] h [true] 60 hq rfl ⟨rfl, trivial⟩ (fun _ => ?_)
      rw [nI_1']
      exact ih f (s + 1) h (by omega) hq ge (fun i hi => (w i hi).trans (if_neg (by unfold qk; rw [c]; exact (fun z => by cases z))).symm)
    | true =>
      have sl := sz_m m12 hs
      refine xq_n 49 [0, 1, 2] [(0, .ref 14), (1, .int x), (2, .int (nI s))] [.int (nI s), .ref 20] h [false] 60 hq rfl ⟨rfl, trivial⟩ (fun _ => ?_)
      refine xq_run hq rfl rfl (bit_q (by omega) hq) ?_
      rintro v h1 ⟨rfl, rfl⟩
      refine xq_n 25 [0, 1, 2] [(0, .ref 14), (1, .int x), (2, .int (nI s + Int32.ofInt 1))] [] (xh_ul h 20 (nI (sz s)).toNatClampNeg (xg 0 h.2.2.1 20 (nI (sz s)).toNatClampNeg + 1)) [] 60 hq rfl trivial (fun _ => ?_)
      rw [nI_1', show (nI (sz s)).toNatClampNeg = sz s from nI_clamp (by omega), w (sz s) sl]
      refine ih f (s + 1) _ (by omega) (a_rq_ul hq) (fx_ul ge rfl) (fun i hi => ?_)
      by_cases z : i = sz s
      · rw [z, gl_s]; exact (if_pos (qk_s c)).symm
      · exact (gl_k z).trans ((w i hi).trans (if_neg (by unfold qk; rw [decide_eq_false (fun e => z e.symm), Bool.and_false]; decide)).symm)
set_option maxRecDepth 100000 in
set_option maxHeartbeats 4000000 in
theorem cv_A (A : LA W m q r hb) (m12 : m ≤ 12) (hq0 : a_rq a_tb hb) : ∀ (n f i : Nat) (h : xh_H), i + n = m + 1 → a_rq a_tb h → fx fN (Lr 20) hb h → (∀ j, j < i → xg 0 h.2.2.1 20 j = 0) → xq f xi_X2_chanceOf xmi_X2_chanceOf 2 [(0, .ref 14), (1, .int x), (2, .int (nI i))] [] h (fun v h' => fx fN (Lr 20) hb h' ∧ v = some (.long (rs W m x (2 ^ m)))) := by
  intro n
  induction n with
  | zero =>
    intro f i h hn hq ge w
    have e : i = m + 1 := by omega
    subst e
    have A' := LA_g A ge rfl rfl (r20 A hq0)
    refine xq_n 25 [0, 1, 2] [(0, .ref 14), (1, .int x), (2, .int (Int32.ofInt 0))] [] h [true] 60 hq rfl ⟨(show xe_c .gt (nI (m + 1)) (xg 0 h.2.1 14 7) = true by rw [A'.2.2.2.2.1]; exact xgt_t (by rw [nI_toInt (by omega), nI_toInt (by omega)]; omega)), trivial⟩ (fun _ => ?_)
    exact cv_B A m12 hq0 (2 ^ m) f 0 h (by omega) hq ge (fun i hi => w i (by omega))
  | succ n ih =>
    intro f i h hn hq ge w
    have A' := LA_g A ge rfl rfl (r20 A hq0)
    refine xq_n 2 [0, 1, 2] [(0, .ref 14), (1, .int x), (2, .int (nI i + Int32.ofInt 1))] [] (xh_ul h 20 (nI i).toNatClampNeg 0) [false] 60 hq rfl ⟨(show xe_c .gt (nI i) (xg 0 h.2.1 14 7) = false by rw [A'.2.2.2.2.1]; exact xgt_f (by rw [nI_toInt (by omega), nI_toInt (by omega)]; omega)), trivial⟩ (fun _ => ?_)
    rw [nI_1', show (nI i).toNatClampNeg = i from nI_clamp (by omega)]
    refine ih f (i + 1) _ (by omega) (a_rq_ul hq) (fx_ul ge rfl) (fun j hj => ?_)
    by_cases z : j = i
    · rw [z, gl_s]
    · exact (gl_k z).trans (w j (by omega))
theorem cv_q {f : Nat} (A : LA W m q r hb) (m12 : m ≤ 12) (hq : a_rq a_tb hb) : xq f xi_X2_chanceOf xmi_X2_chanceOf 0 [(0, .ref 14), (1, .int x)] [] hb (fun v h' => fx fN (Lr 20) hb h' ∧ v = some (.long (rs W m x (2 ^ m)))) := by
  refine xq_n 2 [0, 1, 2] [(0, .ref 14), (1, .int x), (2, .int (Int32.ofInt 0))] [] hb [] 60 hq rfl trivial (fun _ => ?_)
  exact cv_A A m12 hq (m + 1) f 0 hb (by omega) hq fx_0 (fun j hj => absurd hj (Nat.not_lt_zero j))
set_option maxRecDepth 100000 in
set_option maxHeartbeats 4000000 in
/-- X10.chance -/
theorem cr_l {h : xh_H} (A : RA W m h) (m12 : m ≤ 12) (hq : a_rq a_tb h) : ∀ (n f s : Nat), s + n = 2 ^ m → xq f xi_X10_chance xmi_X10_chance 28 [(0, .ref 39), (1, .int x), (2, .long (rs W m x s)), (4, .int (nI s))] [] h (fun v h' => v = some (.long (rs W m x (2 ^ m)))) := by
  have p12 : 2 ^ m ≤ 4096 := show 2 ^ m ≤ 2 ^ 12 from Nat.pow_le_pow_right (by decide) m12
  intro n
  induction n with
  | zero =>
    intro f s sn
    have e : s = 2 ^ m := by omega
    subst e
    refine xq_n 86 [] [] [.long (rs W m x (2 ^ m))] h [true] 60 hq rfl ⟨rgt A m12, trivial⟩ (fun _ => ?_)
    exact xq_ret rfl rfl rfl rfl
  | succ n ih =>
    intro f s sn
    have hs : s < 2 ^ m := by omega
    have g := be' (rw0 A m12 hs)
    have r := ih f (s + 1) (by omega)
    cases c : W s with
    | false =>
      rw [c] at g
      rw [show rs W m x (s + 1) = rs W m x s from if_neg (by rw [c]; decide)] at r
      refine xq_n 28 [0, 1, 2, 4] [(0, .ref 39), (1, .int x), (2, .long (rs W m x s)), (4, .int (nI s + Int32.ofInt 1))] [] h [false, true] 60 hq rfl ⟨rgf A m12 hs, g, trivial⟩ (fun _ => ?_)
      rw [nI_1']
      exact r
    | true =>
      rw [c] at g
      have sl := sz_m m12 hs
      rw [show rs W m x (s + 1) = rs W m x s + tA x m (sz s) from if_pos c] at r
      refine xq_n 52 [0, 1, 2, 4] [(0, .ref 39), (1, .int x), (2, .long (rs W m x s)), (4, .int (nI s))] [.int (nI s), .long x.toInt64, .long (rs W m x s)] h [false, false] 60 hq rfl ⟨rgf A m12 hs, g, trivial⟩ (fun _ => ?_)
      refine xq_run hq rfl rfl (rso_q (by omega) hq) ?_
      rintro v h1 ⟨rfl, rfl⟩
      refine xq_run hq rfl rfl (pwr'_q (by omega) hq) ?_
      rintro v h1 ⟨rfl, rfl⟩
      refine xq_n 69 [0, 1, 2, 4] [(0, .ref 39), (1, .int x), (2, .long (rs W m x s)), (4, .int (nI s))] [.int (nI s), .int (xg 0 h.2.1 39 4), .long (10 - x).toInt64, .long (pwv x.toInt64 (sz s)), .long (rs W m x s)] h [] 60 hq rfl trivial (fun _ => ?_)
      rw [A.1]
      refine xq_run hq rfl rfl (rso_q (by omega) hq) ?_
      rintro v h1 ⟨rfl, rfl⟩
      refine xq_n 73 [0, 1, 2, 4] [(0, .ref 39), (1, .int x), (2, .long (rs W m x s)), (4, .int (nI s))] [.int (nI m - nI (sz s)), .long (10 - x).toInt64, .long (pwv x.toInt64 (sz s)), .long (rs W m x s)] h [] 60 hq rfl trivial (fun _ => ?_)
      rw [nI_sub sl]
      refine xq_run hq rfl rfl (pwr'_q (by omega) hq) ?_
      rintro v h1 ⟨rfl, rfl⟩
      refine xq_n 28 [0, 1, 2, 4] [(0, .ref 39), (1, .int x), (2, .long (rs W m x s + pwv x.toInt64 (sz s) * pwv (10 - x).toInt64 (m - sz s))), (4, .int (nI s + Int32.ofInt 1))] [] h [] 60 hq rfl trivial (fun _ => ?_)
      rw [nI_1']
      exact r
end
/-- what chance answers -/
def chV (W : Nat → Bool) (m : Nat) (x : Int32) : Int64 := cond (!xe_c .lt x 0 && xe_c .le x 10) (rs W m x (2 ^ m)) 18446744073709551615
section
variable {mem sc : Nat} {d : Int32} {h : xh_H}
set_option maxRecDepth 100000 in
set_option maxHeartbeats 4000000 in
theorem cv9_q {f : Nat} {x : Int32} (hi : a_inv a_tb h) (hn : 72 ≤ h.1.length) (e9 : xg 0 h.2.1 0 9 = nI mem) (m1 : 1 ≤ mem) (m12 : mem ≤ 12) (e8 : xg 0 h.2.1 0 8 = nI sc) (sc8 : sc ≤ 8) (e10 : xg 0 h.2.1 0 10 = d) (si : SI h) (pi : PI h) : xq f xi_X9_chance xmi_X9_chance 0 [(0, .ref 0), (1, .int x)] [] h (fun v h' => v = some (.long (chV (cvB (fun k => xg 0 h.2.1 51 k) (fun k => xg 0 h.2.1 44 k) mem sc d) mem x))) := by
  have hq := a_rq_of hi.1 hn
  unfold chV
  cases c1 : xe_c .lt x 0 with
  | true =>
    refine xq_n 24 [] [] [.long 18446744073709551615] h [true] 5 hq rfl ⟨c1, trivial⟩ (fun _ => ?_)
    exact xq_ret rfl rfl rfl rfl
  | false =>
    cases c2 : xe_c .le x 10 with
    | false =>
      refine xq_n 24 [] [] [.long 18446744073709551615] h [false, false] 8 hq rfl ⟨c1, c2, trivial⟩ (fun _ => ?_)
      exact xq_ret rfl rfl rfl rfl
    | true =>
      refine xq_n 17 [1] [(1, .int x)] [.ref 0] h [false, true] 7 hq rfl ⟨c1, c2, trivial⟩ (fun _ => ?_)
      refine xq_run hq rfl rfl (pt9_q hi hn e9 m1 m12 e8 sc8 e10 si pi) ?_
      rintro v h1 ⟨rfl, Y, PP, q, r, A, P⟩
      have hq1 := Yf_q hi hn Y
      refine xq_n 21 [] [] [.int x, .ref 14] h1 [] 3 hq1 rfl trivial (fun _ => ?_)
      refine xq_run hq1 rfl rfl (cv_q A m12 hq1) ?_
      rintro v h2 ⟨g4, rfl⟩
      exact xq_ret rfl rfl rfl rfl
end
section
variable {mem sc : Nat} {FR RW : Nat → Int32} {d : Int32} {h : xh_H}
set_option maxRecDepth 100000 in
set_option maxHeartbeats 4000000 in
theorem cv10_q {f : Nat} {x : Int32} (m12 : mem ≤ 12) (e4 : xg 0 h.2.1 39 4 = nI mem) (e33 : xg 0 h.2.1 39 33 = nI sc) (sc8 : sc ≤ 8) (e3 : xg 0 h.2.1 39 3 = d) (hF : ∀ k, k < sc → xg 0 h.2.1 51 k = FR k) (hT : ∀ k, k < sc → (xg 0 h.2.1 52 k).toInt ≤ 999) (hR : ∀ k s, k < sc → s < 2 ^ mem → ∃ b : Bool, RW (4096 * k + s) = bl b ∧ xg 0 h.2.1 44 (4096 * k + s) = bl b) (hq : a_rq a_tb h) : xq f xi_X10_chance xmi_X10_chance 0 [(0, .ref 39), (1, .int x)] [] h (fun v h' => v = some (.long (chV (cvB FR RW mem sc d) mem x))) := by
  refine xq_n 9 [0, 1] [(0, .ref 39), (1, .int x)] [.int 10, .int (Int32.ofInt 0), .int x] (xh_ui h 39 0 (Int32.ofInt 0)) [] 60 hq rfl trivial (fun _ => ?_)
  have hq : a_rq a_tb (xh_ui h 39 0 (Int32.ofInt 0)) := a_rq_ui hq
  refine xq_run hq rfl rfl (isIn_q hq) ?_
  rintro v h2 ⟨rfl, rfl⟩
  have ev : decide ((Int32.ofInt 0).toInt ≤ x.toInt ∧ x.toInt ≤ (10 : Int32).toInt) = (!xe_c .lt x 0 && xe_c .le x 10) := by
    cases c1 : xe_c .lt x 0 with
    | true => have b : x.toInt < (0 : Int) := a_ce c1; exact decide_eq_false (fun z => by have z1 : (0 : Int) ≤ x.toInt := z.1; omega)
    | false =>
      have b : (0 : Int) ≤ x.toInt := a_ce (a_neg_ok c1)
      cases c2 : xe_c .le x 10 with
      | true => have b2 : x.toInt ≤ (10 : Int) := a_ce c2; exact decide_eq_true ⟨b, b2⟩
      | false => have b2 : (10 : Int) < x.toInt := a_ce (a_neg_ok c2); exact decide_eq_false (fun z => by have z1 : x.toInt ≤ (10 : Int) := z.2; omega)
  rw [ev]
  unfold chV
  cases (!xe_c .lt x 0 && xe_c .le x 10) with
  | false =>
    refine xq_n 18 [] [] [.long 18446744073709551615] (xh_ui h 39 0 (Int32.ofInt 0)) [false] 60 hq rfl ⟨rfl, trivial⟩ (fun _ => ?_)
    exact xq_ret rfl rfl rfl rfl
  | true =>
    refine xq_n 20 [0, 1] [(0, .ref 39), (1, .int x)] [.ref 39] (xh_ui h 39 0 (Int32.ofInt 0)) [true] 60 hq rfl ⟨rfl, trivial⟩ (fun _ => ?_)
    refine xq_run hq rfl rfl (ly_q m12 e4 e33 sc8 e3 hF hT hR hq) ?_
    rintro v h1 ⟨rfl, g1, A⟩
    have hq := fx_q g1 hq
    refine xq_n 28 [0, 1, 2, 4] [(0, .ref 39), (1, .int x), (2, .long (0)), (4, .int (Int32.ofInt 0))] [] h1 [] 60 hq rfl trivial (fun _ => ?_)
    exact cr_l A m12 hq (2 ^ mem) f 0 (by omega)
end
end XCV
