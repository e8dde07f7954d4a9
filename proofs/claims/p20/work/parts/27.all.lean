section XAU
variable {tb : aT} {σ : aN → Int} {h0 : xh_H} {md : List (Nat × Nat)} {A A' : aS} {lv : List (Nat × Value)} {st : List Value} {h : xh_H} {nL d pc n : Nat}
def a_lt : aV := (1, -9223372036854775808, 9223372036854775807, none, [], [])
theorem a_lt_ok {n : Nat} (x : Int64) : a_v σ n a_lt (.long x) := by
  have h1 := x.le_toInt
  have h2 := x.toInt_lt
  exact ⟨x, rfl, by show (-9223372036854775808 : Int) ≤ x.toInt; omega, by show x.toInt ≤ 9223372036854775807; omega⟩
def a_pl (S : List aV) : Option (aV × List aV) := match S with
  | a :: q => cond (Nat.beq a.1 1) (some (a, q)) none
  | [] => none
theorem a_pl_ok {n : Nat} {S : List aV} {a : aV} {q : List aV} (h : a_st σ n S st) (he : a_pl S = some (a, q)) : ∃ (x : Int64) (V : List Value), st = .long x :: V ∧ (a.2.1 ≤ x.toInt ∧ x.toInt ≤ a.2.2.1) ∧ a_st σ n q V := by
  unfold a_pl at he
  match S, st, h, he with
  | b :: S, v :: V, h, he =>
    obtain ⟨h1, h2⟩ := xw_c he
    cases h2
    have h1 := xw_beq h1
    obtain ⟨g1, g2⟩ := h
    unfold a_v at g1
    rw [h1] at g1
    obtain ⟨x, rfl, g1⟩ := g1
    exact ⟨x, V, rfl, g1, g2⟩
def a_ll (a : aV) (A : aS) : Option (Nat × aS) := match a_pl A.2.1 with
  | some (_, q) => (match a_pl q with
    | some (_, q2) => some (1, A.1, a :: q2, A.2.2)
    | none => none)
  | none => none
theorem a_ll_ok {a : aV} (hs : a_s tb σ h0 md A lv st h) (he : a_ll a A = some (n, A')) : ∃ (y x : Int64) (V : List Value), st = .long y :: .long x :: V ∧ n = 1 ∧ (∀ b q, A.2.1 = b :: q → b.2.1 ≤ y.toInt ∧ y.toInt ≤ b.2.2.1) ∧ ∀ v, a_v σ h.1.length a v → a_s tb σ h0 md A' lv (v :: V) h := by
  obtain ⟨i1, i2, i3, i4, i5, i6, i7⟩ := hs
  unfold a_ll at he
  split at he
  · rename_i b q hb
    split at he
    · rename_i a2 q2 ha
      cases he
      obtain ⟨y, V, rfl, hy, hq⟩ := a_pl_ok i4 hb
      obtain ⟨x, V, rfl, hx, hq⟩ := a_pl_ok hq ha
      refine ⟨y, x, V, rfl, rfl, ?_, fun v hv => ⟨i1, i2, i3, ⟨hv, hq⟩, i5, i6, i7⟩⟩
      intro b2 q3 e
      unfold a_pl at hb
      rw [e] at hb
      obtain ⟨_, g⟩ := xw_c hb
      cases g
      exact hy
    · cases he
  · cases he
/-- a long is stored -/
def a_sw (i len nL : Nat) (A : aS) : Option (Nat × aS) := match A.2.1 with
  | a :: q => cond (Nat.beq a.1 1 && Nat.ble (i + 2) nL) (some (len, (i, a) :: A.1.filter (fun q => !(Nat.beq q.1 i) && (!(Nat.beq q.1 (i + 1)) && !(Nat.beq (q.1 + 1) i && Nat.beq q.2.1 1))), q, A.2.2)) none
  | [] => none
theorem a_sw_ok {i len : Nat} (hs : a_s tb σ h0 md A lv st h) (he : a_sw i len nL A = some (n, A')) : ∃ lv' st' h', xe_st2 i len pc nL lv st h 0 0 = some (pc + n, lv', st', h', 0, 0) ∧ a_s tb σ h0 md A' lv' st' h' := by
  obtain ⟨i1, i2, i3, i4, i5, i6, i7⟩ := hs
  unfold a_sw at he
  split at he
  · rename_i a q ha
    obtain ⟨h1, h2⟩ := xw_c he
    cases h2
    obtain ⟨h1, h3⟩ := xw_bb h1
    rw [ha] at i4
    match st, i4 with
    | v :: V, i4 =>
      refine ⟨xl_2 lv i v, V, h, ?_, i1, i2, ?_, i4.2, i5, i6, i7⟩
      · unfold xe_st2
        dsimp only
        rw [a_kk_ok (k := 1) (by decide) i4.1 h1, h3]
        rfl
      · intro p hp
        rcases List.mem_cons.mp hp with rfl | hp
        · refine ⟨v, ?_, i4.1⟩
          unfold xl_2 xl_get
          rw [Nat.beq_refl]
          rfl
        · obtain ⟨hp, hf⟩ := List.mem_filter.mp hp
          obtain ⟨w, g1, g2⟩ := i3 p hp
          refine ⟨w, ?_, g2⟩
          obtain ⟨f1, f2⟩ := xw_bb hf
          obtain ⟨f2, f3⟩ := xw_bb f2
          rw [Bool.not_eq_true'] at f1 f2 f3
          have n1 : p.1 ≠ i := by intro e; rw [e, Nat.beq_refl] at f1; cases f1
          have n2 : p.1 ≠ i + 1 := by intro e; rw [e, Nat.beq_refl] at f2; cases f2
          unfold xl_2 xl_get
          have hb : Nat.beq i p.1 = false := by
            rw [Bool.eq_false_iff]
            intro z
            exact n1 (Nat.eq_of_beq_eq_true z).symm
          rw [hb]
          refine xl_get_f ?_ g1
          have e1 : (p.1 == i) = false := by rw [beq_eq_false_iff_ne]; exact n1
          have e2 : (p.1 == i + 1) = false := by rw [beq_eq_false_iff_ne]; exact n2
          dsimp only
          rw [e1, e2]
          cases hc : (p.1 + 1 == i) with
          | false => rfl
          | true =>
            have e3 : Nat.beq (p.1 + 1) i = true := by rw [beq_iff_eq] at hc; rw [hc]; exact Nat.beq_refl i
            have hk : Nat.beq p.2.1 1 = false := by rw [e3] at f3; exact f3
            rw [a_v_cat g2 hk]
            rfl
  · cases he
theorem lg_cmp_b (x y : Int64) : -1 ≤ (lg_cmp x y).toInt ∧ (lg_cmp x y).toInt ≤ 1 := by
  unfold lg_cmp
  split
  · decide
  · split <;> decide
theorem i2b_b (x : Int32) : -128 ≤ (x.toInt8.toInt32).toInt ∧ (x.toInt8.toInt32).toInt ≤ 127 := by
  rw [Int8.toInt_toInt32]
  have h1 := x.toInt8.le_toInt
  have h2 := x.toInt8.toInt_lt
  omega
theorem l_ne0 {y : Int64} {b : aV} (hc : (decide (0 < b.2.1) || decide (b.2.2.1 < 0)) = true) (h : b.2.1 ≤ y.toInt ∧ y.toInt ≤ b.2.2.1) : decide (y = 0) = false := by
  rw [decide_eq_false_iff_not]
  intro e
  rw [e] at h
  rw [Bool.or_eq_true, decide_eq_true_eq, decide_eq_true_eq] at hc
  have e0 : (0 : Int64).toInt = 0 := rfl
  omega
def a_cst (x : Int32) (len : Nat) (A : aS) : Option (Nat × aS) := some (len, A.1, a_I x.toInt x.toInt :: A.2.1, A.2.2)
/-- ONE INSTRUCTION, in bounds -/
def a_stp (tb : aT) (md : List (Nat × Nat)) (nL : Nat) (r : xr_R) (A : aS) : Option (Nat × aS) := match r.1 with
  | .iconst n => a_cst (Int32.ofInt n) 1 A
  | .bipush n => a_cst (Int8.ofInt n).toInt32 2 A
  | .sipush n => a_cst (Int16.ofInt n).toInt32 3 A
  | .ldc_w _ => a_cst (Int32.ofNat r.2.2.1) 3 A
  | .ldc _ => (match r.2.2.2.1 with
    | 0 => a_cst (Int32.ofNat r.2.2.1) 2 A
    | _ => some (2, A.1, (4, (r.2.2.1 : Int), 0, none, [], []) :: A.2.1, A.2.2))
  | .iload_n k => a_ld 0 k 1 A
  | .iload k => a_ld 0 k 2 A
  | .aload_n k => a_ld 2 k 1 A
  | .aload k => a_ld 2 k 2 A
  | .istore_n k => a_sv 0 k 1 nL A
  | .istore k => a_sv 0 k 2 nL A
  | .astore_n k => a_sv 2 k 1 nL A
  | .astore k => a_sv 2 k 2 nL A
  | .iinc i c => (match a_lk A.1 i with
    | some a => cond (Nat.beq a.1 0 && Nat.ble (i + 1) nL) (some (3, a_set A.1 i (a_sum a.2.2.2.1 none (a_bd A.2.2.1 a) ((Int32.ofInt c).toInt, (Int32.ofInt c).toInt)), A.2)) none
    | none => none)
  | .iadd => a_bin (fun x y => a_sum x.2.2.2.1 y.2.2.2.1 (a_bd A.2.2.1 x) (a_bd A.2.2.1 y)) A
  | .isub => a_bin (fun x y => a_dif x.2.2.2.1 (a_bd A.2.2.1 x) (a_bd A.2.2.1 y)) A
  | .imul => a_bin (fun x y => a_prd (a_bd A.2.2.1 x) (a_bd A.2.2.1 y)) A
  | .iand => a_bin (fun x y => a_wf (a_and (a_bd A.2.2.1 x) (a_bd A.2.2.1 y)) (a_nz A.2.2.1 x ++ a_nz A.2.2.1 y)) A
  | .ior => a_bin (fun x y => a_or (a_bd A.2.2.1 x) (a_bd A.2.2.1 y)) A
  | .ixor => a_bin (fun x y => a_or (a_bd A.2.2.1 x) (a_bd A.2.2.1 y)) A
  | .ishl => a_bin (fun x y => a_shl (a_bd A.2.2.1 x) (a_bd A.2.2.1 y)) A
  | .ishr => a_bin (fun x y => a_wf (a_shr (a_bd A.2.2.1 x) (a_bd A.2.2.1 y)) (a_nz A.2.2.1 x)) A
  | .dup => (match A.2.1 with
    | a :: q => cond (!(Nat.beq a.1 1)) (some (1, A.1, a :: a :: q, A.2.2)) none
    | [] => none)
  | .pop => (match A.2.1 with
    | a :: q => cond (!(Nat.beq a.1 1)) (some (1, A.1, q, A.2.2)) none
    | [] => none)
  | .dup2 => (match A.2.1 with
    | a :: b :: q => cond (!(Nat.beq a.1 1) && !(Nat.beq b.1 1)) (some (1, A.1, a :: b :: a :: b :: q, A.2.2)) none
    | _ => none)
  | .dup_x2 => (match A.2.1 with
    | a :: b :: c :: q => cond (!(Nat.beq a.1 1) && (!(Nat.beq b.1 1) && !(Nat.beq c.1 1))) (some (1, A.1, a :: b :: c :: a :: q, A.2.2)) none
    | _ => none)
  | .getfield _ => (match a_pr A.2.1 with
    | some (t, q) => (match a_gf tb A.2.2.2 t r.2.2.1 r.2.2.2.1 with
      | some a => some (3, A.1, a :: q, A.2.2)
      | none => none)
    | none => none)
  | .putfield _ => (match a_pi A.2.1 with
    | some (a, q) => (match a_pr q with
      | some (t, q2) => cond (a_pf tb md A.2.2.1 a t r.2.2.1 r.2.2.2.1) (some (3, A.1, q2, A.2.2.1, ((t, r.2.2.2.1), a) :: A.2.2.2.filter (fun q => !(a_nq q.1 (t, r.2.2.2.1))))) none
      | none => none)
    | none => (match A.2.1 with
      | a :: q => (match a_pr q with
        | some (t, q2) => cond (a_pg tb a t r.2.2.1 r.2.2.2.1) (some (3, A.1, q2, A.2.2)) none
        | none => none)
      | [] => none))
  | .iaload => (match a_pi A.2.1 with
    | some (i, q) => (match a_pr q with
      | some (t, q2) => (match a_ix tb A.2.2.1 i t 1 with
        | some e => cond (Nat.beq e.1 0) (some (1, A.1, a_I e.2.1 e.2.2 :: q2, A.2.2)) none
        | none => none)
      | none => none)
    | none => none)
  | .baload => (match a_pi A.2.1 with
    | some (i, q) => (match a_pr q with
      | some (t, q2) => (match a_ix tb A.2.2.1 i t 3 with
        | some e => cond (Nat.beq e.1 0) (some (1, A.1, a_I e.2.1 e.2.2 :: q2, A.2.2)) none
        | none => (match a_ix tb A.2.2.1 i t 2 with
          | some e => cond (Nat.beq e.1 0) (some (1, A.1, a_I e.2.1 e.2.2 :: q2, A.2.2)) none
          | none => none))
      | none => none)
    | none => none)
  | .iastore => (match a_pi A.2.1 with
    | some (a, q) => (match a_pi q with
      | some (i, q2) => (match a_pr q2 with
        | some (t, q3) => (match a_ix tb A.2.2.1 i t 1 with
          | some e => cond (Nat.beq e.1 0 && (decide (e.2.1 ≤ (a_bd A.2.2.1 a).1) && (decide ((a_bd A.2.2.1 a).2 ≤ e.2.2) && (a_mem md (t, 0) && !(a_jc t 0))))) (some (1, A.1, q3, A.2.2)) none
          | none => none)
        | none => none)
      | none => none)
    | none => none)
  | .bastore => (match a_pi A.2.1 with
    | some (a, q) => (match a_pi q with
      | some (i, q2) => (match a_pr q2 with
        | some (t, q3) => (match a_ix tb A.2.2.1 i t 3 with
          | some e => cond (Nat.beq e.1 0 && (decide (e.2.1 ≤ 0) && (decide (1 ≤ e.2.2) && (a_mem md (t, 0) && !(a_jc t 0))))) (some (1, A.1, q3, A.2.2)) none
          | none => (match a_ix tb A.2.2.1 i t 2 with
            | some e => cond (Nat.beq e.1 0 && (decide (e.2.1 ≤ -128) && (decide (127 ≤ e.2.2) && (a_mem md (t, 0) && !(a_jc t 0))))) (some (1, A.1, q3, A.2.2)) none
            | none => none))
        | none => none)
      | none => none)
    | none => none)
  | .arraylength => (match a_pr A.2.1 with
    | some (t, q) => (match a_sh[t]? with
      | some (k + 1, m) => cond (Nat.ble (k + 1) 5) (some (1, A.1, a_I (Int32.ofNat m).toInt (Int32.ofNat m).toInt :: q, A.2.2)) none
      | _ => none)
    | none => none)
  | .lconst c => some (1, A.1, (1, (Int64.ofNat (c : Nat)).toInt, (Int64.ofNat (c : Nat)).toInt, none, [], []) :: A.2.1, A.2.2)
  | .ldc2_w _ => some (3, A.1, (1, (Int64.ofNat r.2.2.1).toInt, (Int64.ofNat r.2.2.1).toInt, none, [], []) :: A.2.1, A.2.2)
  | .lload_n k => a_ld 1 k 1 A
  | .lload k => a_ld 1 k 2 A
  | .lstore_n k => a_sw k 1 nL A
  | .lstore k => a_sw k 2 nL A
  | .ladd => a_ll a_lt A
  | .lsub => a_ll a_lt A
  | .lmul => a_ll a_lt A
  | .land => a_ll a_lt A
  | .lor => a_ll a_lt A
  | .lcmp => a_ll (a_I (-1) 1) A
  | .ldiv => (match A.2.1 with
    | y :: _ => cond (decide (0 < y.2.1) || decide (y.2.2.1 < 0)) (a_ll a_lt A) none
    | [] => none)
  | .lrem => (match A.2.1 with
    | y :: _ => cond (decide (0 < y.2.1) || decide (y.2.2.1 < 0)) (a_ll a_lt A) none
    | [] => none)
  | .lushr => (match a_pi A.2.1 with
    | some (_, q) => (match a_pl q with
      | some (_, q2) => some (1, A.1, a_lt :: q2, A.2.2)
      | none => none)
    | none => none)
  | .lshl => (match a_pi A.2.1 with
    | some (_, q) => (match a_pl q with
      | some (_, q2) => some (1, A.1, a_lt :: q2, A.2.2)
      | none => none)
    | none => none)
  | .i2l => (match a_pi A.2.1 with
    | some (x, q) => some (1, A.1, (1, (a_bd A.2.2.1 x).1, (a_bd A.2.2.1 x).2, none, [], []) :: q, A.2.2)
    | none => none)
  | .l2i => (match a_pl A.2.1 with
    | some (_, q) => some (1, A.1, a_top :: q, A.2.2)
    | none => none)
  | .i2b => (match a_pi A.2.1 with
    | some (_, q) => some (1, A.1, a_I (-128) 127 :: q, A.2.2)
    | none => none)
  | .iushr => a_bin (fun _ _ => a_top) A
  | .laload => (match a_pi A.2.1 with
    | some (i, q) => (match a_pr q with
      | some (t, q2) => (match a_ix tb A.2.2.1 i t 4 with
        | some e => cond (Nat.beq e.1 1) (some (1, A.1, (1, e.2.1, e.2.2, none, [], []) :: q2, A.2.2)) none
        | none => none)
      | none => (match q with
        | f :: q2 => cond (Nat.beq f.1 4 && (decide (f.2.1 = 1) && (decide (0 ≤ (a_bd A.2.2.1 i).1) && decide ((a_bd A.2.2.1 i).2 < 13)))) (some (1, A.1, a_lt :: q2, A.2.2)) none
        | [] => none))
    | none => none)
  | .getstatic _ => some (3, A.1, (4, 1, 0, none, [], []) :: A.2.1, A.2.2)
  | .lastore => (match a_pl A.2.1 with
    | some (a, q) => (match a_pi q with
      | some (i, q2) => (match a_pr q2 with
        | some (t, q3) => (match a_ix tb A.2.2.1 i t 4 with
          | some e => cond (Nat.beq e.1 1 && (decide (e.2.1 ≤ a.2.1) && decide (a.2.2.1 ≤ e.2.2))) (some (1, A.1, q3, A.2.2)) none
          | none => none)
        | none => none)
      | none => none)
    | none => none)
  | .aaload => (match a_pi A.2.1 with
    | some (i, q) => (match a_pr q with
      | some (t, q2) => (match a_ix tb A.2.2.1 i t 5 with
        | some e => cond (Nat.beq e.1 3) (some (1, A.1, (3, e.2.1, 0, none, [], []) :: q2, A.2.2)) none
        | none => none)
      | none => none)
    | none => none)
  | _ => none
theorem a_s_push {a : aV} {v : Value} (hs : a_s tb σ h0 md A lv st h) (hv : a_v σ h.1.length a v) : a_s tb σ h0 md (A.1, a :: A.2.1, A.2.2) lv (v :: st) h := by
  obtain ⟨i1, i2, i3, i4, i5, i6, i7⟩ := hs
  exact ⟨i1, i2, i3, ⟨hv, i4⟩, i5, i6, i7⟩
theorem a_cst_ok {x : Int32} {len : Nat} (hs : a_s tb σ h0 md A lv st h) (he : a_cst x len A = some (n, A')) : n = len ∧ a_s tb σ h0 md A' lv (.int x :: st) h := by
  unfold a_cst at he
  cases he
  exact ⟨rfl, a_s_push hs (a_vi rfl (a_I_ok (Int.le_refl _) (Int.le_refl _)))⟩
theorem a_sum0 {o1 o2 : Option (aN × Int)} {p q : Int × Int} : (a_sum o1 o2 p q).1 = 0 := by
  unfold a_sum
  cases a_in (p.1 + q.1, p.2 + q.2) <;> rfl
theorem a_dif0 {o1 : Option (aN × Int)} {p q : Int × Int} : (a_dif o1 p q).1 = 0 := by
  unfold a_dif
  cases a_in (p.1 - q.2, p.2 - q.1) <;> rfl
theorem a_cond0 {c : Bool} {a b : aV} (h1 : a.1 = 0) (h2 : b.1 = 0) : (cond c a b).1 = 0 := by
  cases c
  · exact h2
  · exact h1
theorem vp_nar8 (x : Int32) : -128 ≤ (vp_nar .byte x).toInt ∧ (vp_nar .byte x).toInt ≤ 127 := i2b_b x
theorem vp_nar01 (x : Int32) : 0 ≤ (vp_nar .boolean x).toInt ∧ (vp_nar .boolean x).toInt ≤ 1 := by
  have h : vp_nar .boolean x = x &&& 1 := rfl
  rw [h]
  exact ar_and1 (x := x) (y := 1) (by decide)
theorem a_xin {x : Int32} {m : Nat} (h1 : 0 ≤ x.toInt) (h2 : x.toInt < (m : Int)) : xe_in x m = true := by
  obtain ⟨en, hl⟩ := a_nIx (y := x) h1
  have hcl : x.toNatClampNeg = x.toInt.toNat := by rw [en, nI_clamp hl, ← en]
  unfold xe_in
  have hz : ¬ x < 0 := by rw [Int32.lt_iff_toInt_lt]; show ¬ x.toInt < 0; omega
  rw [hcl, decide_eq_false hz, Nat.ble_eq.mpr (show x.toInt.toNat + 1 ≤ m by omega)]
  rfl
set_option maxHeartbeats 4000000 in
theorem a_stp_ok {r : xr_R} (hs : a_s tb σ h0 md A lv st h) (he : a_stp tb md nL r A = some (n, A')) : ∃ lv' st' h', xe_2 none nL r d pc lv st h 0 0 = some (pc + n, lv', st', h', 0, 0) ∧ a_s tb σ h0 md A' lv' st' h' := by
  have hs0 := hs
  obtain ⟨i1, i2, i3, i4, i5, i6, i7⟩ := hs0
  obtain ⟨i, r1, r2, r3, r4, r5⟩ := r
  have lift : ∀ (o : xs_S), xe_1 nL (i, r1, r2, r3, r4, r5) pc lv st h 0 0 = some o → xe_2 none nL (i, r1, r2, r3, r4, r5) d pc lv st h 0 0 = some o := by
    intro o ho
    unfold xe_2
    rw [ho]
  cases i
  case iconst c => obtain ⟨rfl, hs'⟩ := a_cst_ok hs he; exact ⟨_, _, _, lift _ rfl, hs'⟩
  case bipush c => obtain ⟨rfl, hs'⟩ := a_cst_ok hs he; exact ⟨_, _, _, lift _ rfl, hs'⟩
  case sipush c => obtain ⟨rfl, hs'⟩ := a_cst_ok hs he; exact ⟨_, _, _, lift _ rfl, hs'⟩
  case ldc_w c => obtain ⟨rfl, hs'⟩ := a_cst_ok hs he; exact ⟨_, _, _, lift _ rfl, hs'⟩
  case ldc c =>
    match r3, he, lift with
    | 0, he, lift => obtain ⟨rfl, hs'⟩ := a_cst_ok hs he; exact ⟨_, _, _, lift _ rfl, hs'⟩
    | k + 1, he, lift =>
      cases he
      exact ⟨_, _, _, lift _ rfl, a_s_push hs rfl⟩
  case iload_n k => obtain ⟨a, b, c, g1, g2⟩ := a_ld_ok (pc := pc) (by decide) hs he; exact ⟨a, b, c, lift _ g1, g2⟩
  case iload k => obtain ⟨a, b, c, g1, g2⟩ := a_ld_ok (pc := pc) (by decide) hs he; exact ⟨a, b, c, lift _ g1, g2⟩
  case aload_n k => obtain ⟨a, b, c, g1, g2⟩ := a_ld_ok (pc := pc) (by decide) hs he; exact ⟨a, b, c, lift _ g1, g2⟩
  case aload k => obtain ⟨a, b, c, g1, g2⟩ := a_ld_ok (pc := pc) (by decide) hs he; exact ⟨a, b, c, lift _ g1, g2⟩
  case istore_n k => obtain ⟨a, b, c, g1, g2⟩ := a_sv_ok (pc := pc) (by decide) hs he; exact ⟨a, b, c, lift _ g1, g2⟩
  case istore k => obtain ⟨a, b, c, g1, g2⟩ := a_sv_ok (pc := pc) (by decide) hs he; exact ⟨a, b, c, lift _ g1, g2⟩
  case astore_n k => obtain ⟨a, b, c, g1, g2⟩ := a_sv_ok (pc := pc) (by decide) hs he; exact ⟨a, b, c, lift _ g1, g2⟩
  case astore k => obtain ⟨a, b, c, g1, g2⟩ := a_sv_ok (pc := pc) (by decide) hs he; exact ⟨a, b, c, lift _ g1, g2⟩
  case iinc i c =>
    unfold a_stp at he
    dsimp only at he
    split at he
    · rename_i a ha
      obtain ⟨g1, g2⟩ := xw_c he
      cases g2
      obtain ⟨g1, g3⟩ := xw_bb g1
      have g1 := xw_beq g1
      obtain ⟨v, w1, w2⟩ := i3 _ (a_lk_mem ha)
      unfold a_v at w2
      rw [g1] at w2
      obtain ⟨x, rfl, w2⟩ := w2
      have hsum := a_sum_ok (σ := σ) (b := a_I (Int32.ofInt c).toInt (Int32.ofInt c).toInt) i5 w2 (a_I_ok (Int.le_refl _) (Int.le_refl _))
      refine ⟨xl_1 lv i (.int (x + Int32.ofInt c)), st, h, lift _ ?_, i1, i2, a_set_ok i3 (a_vi a_sum0 hsum), i4, i5, i6, i7⟩
      unfold xe_1
      try dsimp only
      rw [w1]
      try dsimp only
      rw [g3]
      rfl
    · cases he
  case iadd => obtain ⟨y, x, V, rfl, rfl, g⟩ := a_bin_ok (fun x y => x + y) (fun a b x y hx hy => ⟨a_sum_ok i5 hx hy, a_sum0⟩) hs he; exact ⟨_, _, _, lift _ rfl, g⟩
  case isub => obtain ⟨y, x, V, rfl, rfl, g⟩ := a_bin_ok (fun x y => x - y) (fun a b x y hx hy => ⟨a_dif_ok i5 hx hy, a_dif0⟩) hs he; exact ⟨_, _, _, lift _ rfl, g⟩
  case imul => obtain ⟨y, x, V, rfl, rfl, g⟩ := a_bin_ok (fun x y => x * y) (fun a b x y hx hy => ⟨a_prd_ok i5 hx hy, a_cond0 rfl rfl⟩) hs he; exact ⟨_, _, _, lift _ rfl, g⟩
  case iand => obtain ⟨y, x, V, rfl, rfl, g⟩ := a_bin_ok (fun x y => x &&& y) (fun a b x y hx hy => ⟨a_wf_ok (a_and_ok i5 hx hy) (fun z => a_f_app (a_nz_ok i5 hx (a_and_nz z).1) (a_nz_ok i5 hy (a_and_nz z).2)), a_cond0 (a_cond0 rfl rfl) (a_cond0 rfl rfl)⟩) hs he; exact ⟨_, _, _, lift _ rfl, g⟩
  case ior => obtain ⟨y, x, V, rfl, rfl, g⟩ := a_bin_ok (fun x y => x ||| y) (fun a b x y hx hy => ⟨(a_or_ok i5 hx hy).1, a_cond0 rfl rfl⟩) hs he; exact ⟨_, _, _, lift _ rfl, g⟩
  case ixor => obtain ⟨y, x, V, rfl, rfl, g⟩ := a_bin_ok (fun x y => x ^^^ y) (fun a b x y hx hy => ⟨(a_or_ok i5 hx hy).2, a_cond0 rfl rfl⟩) hs he; exact ⟨_, _, _, lift _ rfl, g⟩
  case ishl => obtain ⟨y, x, V, rfl, rfl, g⟩ := a_bin_ok (fun x y => x <<< (y &&& 31)) (fun a b x y hx hy => ⟨a_shl_ok i5 hx hy, a_cond0 rfl rfl⟩) hs he; exact ⟨_, _, _, lift _ rfl, g⟩
  case ishr => obtain ⟨y, x, V, rfl, rfl, g⟩ := a_bin_ok (fun x y => x >>> (y &&& 31)) (fun a b x y hx hy => ⟨a_wf_ok (a_shr_ok i5 hx hy) (fun z => a_nz_ok i5 hx (a_shr_nz z)), a_cond0 (a_cond0 rfl rfl) rfl⟩) hs he; exact ⟨_, _, _, lift _ rfl, g⟩
  case dup =>
    unfold a_stp at he
    dsimp only at he
    split at he
    · rename_i a q ha
      obtain ⟨g1, g2⟩ := xw_c he
      cases g2
      rw [Bool.not_eq_true'] at g1
      rw [ha] at i4
      match st, i4, lift with
      | v :: V, i4, lift =>
        refine ⟨lv, v :: v :: V, h, lift _ ?_, i1, i2, i3, ⟨i4.1, i4⟩, i5, i6, i7⟩
        unfold xe_1
        try dsimp only
        rw [a_v_cat i4.1 g1]
        rfl
    · cases he
  case pop =>
    unfold a_stp at he
    dsimp only at he
    split at he
    · rename_i a q ha
      obtain ⟨g1, g2⟩ := xw_c he
      cases g2
      rw [Bool.not_eq_true'] at g1
      rw [ha] at i4
      match st, i4, lift with
      | v :: V, i4, lift =>
        refine ⟨lv, V, h, lift _ ?_, i1, i2, i3, i4.2, i5, i6, i7⟩
        unfold xe_1
        try dsimp only
        rw [a_v_cat i4.1 g1]
        rfl
    · cases he
  case dup2 =>
    unfold a_stp at he
    dsimp only at he
    split at he
    · rename_i a b q ha
      obtain ⟨g1, g2⟩ := xw_c he
      cases g2
      obtain ⟨g1, g3⟩ := xw_bb g1
      rw [Bool.not_eq_true'] at g1 g3
      rw [ha] at i4
      match st, i4, lift with
      | v :: w :: V, i4, lift =>
        refine ⟨lv, v :: w :: v :: w :: V, h, lift _ ?_, i1, i2, i3, ⟨i4.1, i4.2.1, i4⟩, i5, i6, i7⟩
        unfold xe_1
        try dsimp only
        rw [a_v_cat i4.1 g1, a_v_cat i4.2.1 g3]
        rfl
    · cases he
  case dup_x2 =>
    unfold a_stp at he
    dsimp only at he
    split at he
    · rename_i a b c q ha
      obtain ⟨g1, g2⟩ := xw_c he
      cases g2
      obtain ⟨g1, g3⟩ := xw_bb g1
      obtain ⟨g3, g4⟩ := xw_bb g3
      rw [Bool.not_eq_true'] at g1 g3 g4
      rw [ha] at i4
      match st, i4, lift with
      | v :: w :: z :: V, i4, lift =>
        refine ⟨lv, v :: w :: z :: v :: V, h, lift _ ?_, i1, i2, i3, ⟨i4.1, i4.2.1, i4.2.2.1, i4.1, i4.2.2.2⟩, i5, i6, i7⟩
        unfold xe_1
        try dsimp only
        rw [a_v_cat i4.1 g1, a_v_cat i4.2.1 g3, a_v_cat i4.2.2.1 g4]
        rfl
    · cases he
  case getfield c =>
    unfold a_stp at he
    dsimp only at he
    split at he
    · rename_i t q hq
      split at he
      · rename_i a ha
        cases he
        obtain ⟨b, V, rfl, hb, hV⟩ := a_pr_ok i4 hq
        obtain ⟨g1, g2⟩ := a_gf_ok i1 i6 hb ha
        refine ⟨lv, xh_get h b (xh_ty r2 r3) r3 :: V, h, lift _ ?_, i1, i2, i3, ⟨g2, hV⟩, i5, i6, i7⟩
        unfold xe_1 xp_r
        try dsimp only
        rw [g1]
        show (cond (Nat.beq r2 r2) _ _) = _
        rw [Nat.beq_refl]
        rfl
      · cases he
    · cases he
  case putfield c =>
    unfold a_stp at he
    dsimp only at he
    split at he
    · rename_i a q hq
      split at he
      · rename_i t q2 hq2
        obtain ⟨g1, g2⟩ := xw_c he
        cases g2
        obtain ⟨x, V, rfl, hx, hV, hk⟩ := a_pi_ok i4 hq
        obtain ⟨b, V, rfl, hb, hV⟩ := a_pr_ok hV hq2
        obtain ⟨k1, k2, k3⟩ := a_pf_ok (r3 := 0) hs hx hk hV hb g1
        refine ⟨lv, V, xh_ui h b r3 x, lift _ ?_, k3⟩
        unfold xe_1 xp_vr
        try dsimp only
        rw [k1]
        show (cond (Nat.beq r2 r2) _ _) = _
        rw [Nat.beq_refl, k2]
        rfl
      · cases he
    · split at he
      · rename_i a q hq0 hq
        split at he
        · rename_i t q2 hq2
          obtain ⟨g1, g2⟩ := xw_c he
          cases g2
          rw [hq] at i4
          match st, i4, hs, lift with
          | v :: V, i4, hs, lift =>
            obtain ⟨b, V, rfl, hb, hV⟩ := a_pr_ok i4.2 hq2
            obtain ⟨k1, h', k2, k3⟩ := a_pg_ok hs i4.1 hV hb g1
            refine ⟨lv, V, h', lift _ ?_, k3⟩
            unfold xe_1 xp_vr
            try dsimp only
            rw [k1]
            show (cond (Nat.beq r2 r2) _ _) = _
            rw [Nat.beq_refl, k2]
            rfl
        · cases he
      · cases he
  case iaload =>
    unfold a_stp at he
    dsimp only at he
    split at he
    · rename_i i q hq
      split at he
      · rename_i t q2 hq2
        split at he
        · rename_i e hix
          obtain ⟨g1, g2⟩ := xw_c he
          cases g2
          have g1 := xw_beq g1
          obtain ⟨x, V, rfl, hx, hV, hk⟩ := a_pi_ok i4 hq
          obtain ⟨b, V, rfl, hb, hV⟩ := a_pr_ok hV hq2
          obtain ⟨m, k1, k2, k3, k4, k5⟩ := a_ix_ok i1 i5 hx hb hix
          unfold a_e at k3
          rw [g1] at k3
          refine ⟨lv, .int (xg 0 h.2.1 b x.toNatClampNeg) :: V, h, lift _ ?_, i1, i2, i3, ⟨a_vi rfl (a_I_ok k3.1 k3.2), hV⟩, i5, i6, i7⟩
          unfold xe_1 xp_ir
          try dsimp only
          rw [k1]
          show (cond (xe_in x m) _ _) = _
          rw [k2]
          rfl
        · cases he
      · cases he
    · cases he
  case baload =>
    unfold a_stp at he
    dsimp only at he
    split at he
    · rename_i i q hq
      split at he
      · rename_i t q2 hq2
        obtain ⟨x, V, rfl, hx, hV, hk⟩ := a_pi_ok i4 hq
        obtain ⟨b, V, rfl, hb, hV⟩ := a_pr_ok hV hq2
        split at he
        · rename_i e hix
          obtain ⟨g1, g2⟩ := xw_c he
          cases g2
          have g1 := xw_beq g1
          obtain ⟨m, k1, k2, k3, k4, k5⟩ := a_ix_ok i1 i5 hx hb hix
          unfold a_e at k3
          rw [g1] at k3
          refine ⟨lv, .int (xg 0 h.2.1 b x.toNatClampNeg) :: V, h, lift _ ?_, i1, i2, i3, ⟨a_vi rfl (a_I_ok k3.1 k3.2), hV⟩, i5, i6, i7⟩
          unfold xe_1 xp_ir
          try dsimp only
          rw [k1]
          show (cond (xe_in x m) _ _) = _
          rw [k2]
          rfl
        · split at he
          · rename_i e hix
            obtain ⟨g1, g2⟩ := xw_c he
            cases g2
            have g1 := xw_beq g1
            obtain ⟨m, k1, k2, k3, k4, k5⟩ := a_ix_ok i1 i5 hx hb hix
            unfold a_e at k3
            rw [g1] at k3
            refine ⟨lv, .int (xg 0 h.2.1 b x.toNatClampNeg) :: V, h, lift _ ?_, i1, i2, i3, ⟨a_vi rfl (a_I_ok k3.1 k3.2), hV⟩, i5, i6, i7⟩
            unfold xe_1 xp_ir
            try dsimp only
            rw [k1]
            show (cond (xe_in x m) _ _) = _
            rw [k2]
            rfl
          · cases he
      · cases he
    · cases he
  case iastore =>
    unfold a_stp at he
    dsimp only at he
    split at he
    · rename_i a q hq
      split at he
      · rename_i i q2 hq2
        split at he
        · rename_i t q3 hq3
          split at he
          · rename_i e hix
            obtain ⟨g1, g2⟩ := xw_c he
            cases g2
            obtain ⟨g1, g3⟩ := xw_bb g1
            obtain ⟨g3, g4⟩ := xw_bb g3
            obtain ⟨g4, g5⟩ := xw_bb g4
            have g1 := xw_beq g1
            have g3 := of_decide_eq_true g3
            have g4 := of_decide_eq_true g4
            obtain ⟨y, V, rfl, hy, hV, _⟩ := a_pi_ok i4 hq
            obtain ⟨x, V, rfl, hx, hV, _⟩ := a_pi_ok hV hq2
            obtain ⟨b, V, rfl, hb, hV⟩ := a_pr_ok hV hq3
            obtain ⟨m, k1, k2, k3, k4, k5⟩ := a_ix_ok i1 i5 hx hb hix
            have hby := a_bd_ok i5 hy
            obtain ⟨e1, lo, hi⟩ := e
            dsimp only at g1 g3 g4
            subst g1
            refine ⟨lv, V, xh_ui h b x.toNatClampNeg y, lift _ ?_, a_wr hb g5 hs k1 k5 k4 (by omega) (by omega) hV⟩
            unfold xe_1 xp_iir
            try dsimp only
            rw [k1]
            show (cond (xe_in x m) _ _) = _
            rw [k2]
            rfl
          · cases he
        · cases he
      · cases he
    · cases he
  case bastore =>
    unfold a_stp at he
    dsimp only at he
    split at he
    · rename_i a q hq
      split at he
      · rename_i i q2 hq2
        split at he
        · rename_i t q3 hq3
          obtain ⟨y, V, rfl, hy, hV, _⟩ := a_pi_ok i4 hq
          obtain ⟨x, V, rfl, hx, hV, _⟩ := a_pi_ok hV hq2
          obtain ⟨b, V, rfl, hb, hV⟩ := a_pr_ok hV hq3
          split at he
          · rename_i e hix
            obtain ⟨g1, g2⟩ := xw_c he
            cases g2
            obtain ⟨g1, g3⟩ := xw_bb g1
            obtain ⟨g3, g4⟩ := xw_bb g3
            obtain ⟨g4, g5⟩ := xw_bb g4
            have g1 := xw_beq g1
            have g3 := of_decide_eq_true g3
            have g4 := of_decide_eq_true g4
            obtain ⟨m, k1, k2, k3, k4, k5⟩ := a_ix_ok i1 i5 hx hb hix
            have hby := vp_nar01 y
            obtain ⟨e1, lo, hi⟩ := e
            dsimp only at g1 g3 g4
            subst g1
            refine ⟨lv, V, xh_ui h b x.toNatClampNeg (vp_nar .boolean y), lift _ ?_, a_wr hb g5 hs k1 k5 k4 (by omega) (by omega) hV⟩
            unfold xe_1 xp_iir
            try dsimp only
            rw [k1]
            show (cond (xe_in x m) _ _) = _
            rw [k2]
            rfl
          · split at he
            · rename_i e hix
              obtain ⟨g1, g2⟩ := xw_c he
              cases g2
              obtain ⟨g1, g3⟩ := xw_bb g1
              obtain ⟨g3, g4⟩ := xw_bb g3
              obtain ⟨g4, g5⟩ := xw_bb g4
              have g1 := xw_beq g1
              have g3 := of_decide_eq_true g3
              have g4 := of_decide_eq_true g4
              obtain ⟨m, k1, k2, k3, k4, k5⟩ := a_ix_ok i1 i5 hx hb hix
              have hby := vp_nar8 y
              obtain ⟨e1, lo, hi⟩ := e
              dsimp only at g1 g3 g4
              subst g1
              refine ⟨lv, V, xh_ui h b x.toNatClampNeg (vp_nar .byte y), lift _ ?_, a_wr hb g5 hs k1 k5 k4 (by omega) (by omega) hV⟩
              unfold xe_1 xp_iir
              try dsimp only
              rw [k1]
              show (cond (xe_in x m) _ _) = _
              rw [k2]
              rfl
            · cases he
        · cases he
      · cases he
    · cases he
  case arraylength =>
    unfold a_stp at he
    dsimp only at he
    split at he
    · rename_i t q hq
      split at he
      · rename_i k m hsh
        obtain ⟨g1, g2⟩ := xw_c he
        cases g2
        obtain ⟨b, V, rfl, hb, hV⟩ := a_pr_ok i4 hq
        have k1 := a_sh_at i1 hb hsh
        refine ⟨lv, .int (Int32.ofNat m) :: V, h, lift _ ?_, i1, i2, i3, ⟨a_vi rfl (a_I_ok (Int.le_refl _) (Int.le_refl _)), hV⟩, i5, i6, i7⟩
        unfold xe_1 xp_r
        try dsimp only
        rw [k1]
        show (cond (Nat.ble (k + 1) 5) _ _) = _
        rw [g1]
        rfl
      · cases he
    · cases he
  case lconst c => cases he; exact ⟨_, _, _, lift _ rfl, a_s_push hs ⟨_, rfl, Int.le_refl _, Int.le_refl _⟩⟩
  case ldc2_w c => cases he; exact ⟨_, _, _, lift _ rfl, a_s_push hs ⟨_, rfl, Int.le_refl _, Int.le_refl _⟩⟩
  case lload_n k => obtain ⟨a, b, c, g1, g2⟩ := a_ld_ok (pc := pc) (by decide) hs he; exact ⟨a, b, c, lift _ g1, g2⟩
  case lload k => obtain ⟨a, b, c, g1, g2⟩ := a_ld_ok (pc := pc) (by decide) hs he; exact ⟨a, b, c, lift _ g1, g2⟩
  case lstore_n k => obtain ⟨a, b, c, g1, g2⟩ := a_sw_ok (pc := pc) hs he; exact ⟨a, b, c, lift _ g1, g2⟩
  case lstore k => obtain ⟨a, b, c, g1, g2⟩ := a_sw_ok (pc := pc) hs he; exact ⟨a, b, c, lift _ g1, g2⟩
  case ladd => obtain ⟨y, x, V, rfl, rfl, _, g⟩ := a_ll_ok hs he; exact ⟨_, _, _, lift _ rfl, g _ (a_lt_ok _)⟩
  case lsub => obtain ⟨y, x, V, rfl, rfl, _, g⟩ := a_ll_ok hs he; exact ⟨_, _, _, lift _ rfl, g _ (a_lt_ok _)⟩
  case lmul => obtain ⟨y, x, V, rfl, rfl, _, g⟩ := a_ll_ok hs he; exact ⟨_, _, _, lift _ rfl, g _ (a_lt_ok _)⟩
  case land => obtain ⟨y, x, V, rfl, rfl, _, g⟩ := a_ll_ok hs he; exact ⟨_, _, _, lift _ rfl, g _ (a_lt_ok _)⟩
  case lor => obtain ⟨y, x, V, rfl, rfl, _, g⟩ := a_ll_ok hs he; exact ⟨_, _, _, lift _ rfl, g _ (a_lt_ok _)⟩
  case lcmp => obtain ⟨y, x, V, rfl, rfl, _, g⟩ := a_ll_ok hs he; exact ⟨_, _, _, lift _ rfl, g _ (a_vi rfl (a_I_ok (lg_cmp_b x y).1 (lg_cmp_b x y).2))⟩
  case ldiv =>
    unfold a_stp at he
    dsimp only at he
    split at he
    · rename_i b q hb
      obtain ⟨c1, he⟩ := xw_c he
      obtain ⟨y, x, V, rfl, rfl, hy, g⟩ := a_ll_ok hs he
      refine ⟨lv, .long (x / y) :: V, h, lift _ ?_, g _ (a_lt_ok _)⟩
      unfold xe_1 xp_ll
      dsimp only
      rw [l_ne0 c1 (hy b q hb)]
      rfl
    · cases he
  case lrem =>
    unfold a_stp at he
    dsimp only at he
    split at he
    · rename_i b q hb
      obtain ⟨c1, he⟩ := xw_c he
      obtain ⟨y, x, V, rfl, rfl, hy, g⟩ := a_ll_ok hs he
      refine ⟨lv, .long (x - x / y * y) :: V, h, lift _ ?_, g _ (a_lt_ok _)⟩
      unfold xe_1 xp_ll
      dsimp only
      rw [l_ne0 c1 (hy b q hb)]
      rfl
    · cases he
  case lushr =>
    unfold a_stp at he
    dsimp only at he
    split at he
    · rename_i b q hb
      split at he
      · rename_i a2 q2 ha
        cases he
        obtain ⟨y, V, rfl, hy, hq, _⟩ := a_pi_ok i4 hb
        obtain ⟨x, V, rfl, hx, hq⟩ := a_pl_ok hq ha
        exact ⟨_, _, _, lift _ rfl, i1, i2, i3, ⟨a_lt_ok _, hq⟩, i5, i6, i7⟩
      · cases he
    · cases he
  case lshl =>
    unfold a_stp at he
    dsimp only at he
    split at he
    · rename_i b q hb
      split at he
      · rename_i a2 q2 ha
        cases he
        obtain ⟨y, V, rfl, hy, hq, _⟩ := a_pi_ok i4 hb
        obtain ⟨x, V, rfl, hx, hq⟩ := a_pl_ok hq ha
        exact ⟨_, _, _, lift _ rfl, i1, i2, i3, ⟨a_lt_ok _, hq⟩, i5, i6, i7⟩
      · cases he
    · cases he
  case i2l =>
    unfold a_stp at he
    dsimp only at he
    split at he
    · rename_i b q hb
      cases he
      obtain ⟨x, V, rfl, hx, hq, _⟩ := a_pi_ok i4 hb
      have hbd := a_bd_ok i5 hx
      refine ⟨_, _, _, lift _ rfl, i1, i2, i3, ⟨⟨x.toInt64, rfl, ?_⟩, hq⟩, i5, i6, i7⟩
      rw [Int32.toInt_toInt64]
      exact hbd
    · cases he
  case l2i =>
    unfold a_stp at he
    dsimp only at he
    split at he
    · rename_i b q hb
      cases he
      obtain ⟨x, V, rfl, hx, hq⟩ := a_pl_ok i4 hb
      exact ⟨_, _, _, lift _ rfl, i1, i2, i3, ⟨a_vi rfl (a_top_ok _), hq⟩, i5, i6, i7⟩
    · cases he
  case i2b =>
    unfold a_stp at he
    dsimp only at he
    split at he
    · rename_i b q hb
      cases he
      obtain ⟨x, V, rfl, hx, hq, _⟩ := a_pi_ok i4 hb
      exact ⟨_, _, _, lift _ rfl, i1, i2, i3, ⟨a_vi rfl (a_I_ok (i2b_b x).1 (i2b_b x).2), hq⟩, i5, i6, i7⟩
    · cases he
  case iushr => obtain ⟨y, x, V, rfl, rfl, g⟩ := a_bin_ok (fun x y => (x.toUInt32 >>> (y.toUInt32 &&& Int32.toUInt32 31)).toInt32) (fun a b x y hx hy => ⟨a_top_ok _, rfl⟩) hs he; exact ⟨_, _, _, lift _ rfl, g⟩
  case laload =>
    unfold a_stp at he
    dsimp only at he
    split at he
    · rename_i i q hq
      split at he
      · rename_i t q2 hq2
        split at he
        · rename_i e hix
          obtain ⟨g1, g2⟩ := xw_c he
          cases g2
          have g1 := xw_beq g1
          obtain ⟨x, V, rfl, hx, hV, hk⟩ := a_pi_ok i4 hq
          obtain ⟨b, V, rfl, hb, hV⟩ := a_pr_ok hV hq2
          obtain ⟨m, k1, k2, k3, k4, k5⟩ := a_ix_ok i1 i5 hx hb hix
          unfold a_e at k3
          rw [g1] at k3
          refine ⟨lv, .long (xg 0 h.2.2.1 b x.toNatClampNeg) :: V, h, lift _ ?_, i1, i2, i3, ⟨⟨_, rfl, k3.1, k3.2⟩, hV⟩, i5, i6, i7⟩
          unfold xe_1 xp_ir
          try dsimp only
          rw [k1]
          show (cond (xe_in x m) _ _) = _
          rw [k2]
          rfl
        · cases he
      · rename_i hpr
        split at he
        · rename_i f q2
          obtain ⟨g1, g2⟩ := xw_c he
          cases g2
          obtain ⟨g1, g3⟩ := xw_bb g1
          obtain ⟨g3, g4⟩ := xw_bb g3
          obtain ⟨g4, g5⟩ := xw_bb g4
          have g1 := xw_beq g1
          have g3 := of_decide_eq_true g3
          have g4 := of_decide_eq_true g4
          have g5 := of_decide_eq_true g5
          obtain ⟨x, V, rfl, hx, hV, hk⟩ := a_pi_ok i4 hq
          have hb := a_bd_ok i5 hx
          match V, hV with
          | v :: V, hV =>
            have hv := hV.1
            unfold a_v at hv
            rw [g1] at hv
            have hv : v = .float (UInt32.ofNat f.2.1.toNat) := hv
            rw [g3] at hv
            subst hv
            refine ⟨lv, .long (xo_f x.toNatClampNeg) :: V, h, ?_, i1, i2, i3, ⟨a_lt_ok _, hV.2⟩, i5, i6, i7⟩
            have hin : xe_in x 13 = true := a_xin (by omega) (by show x.toInt < ((13 : Nat) : Int); omega)
            unfold xe_2 xe_1 xe_o xp_ir
            dsimp only
            rw [hin]
            rfl
        · cases he
    · cases he
  case getstatic c =>
    cases he
    exact ⟨_, _, _, rfl, a_s_push hs rfl⟩
  case lastore =>
    unfold a_stp at he
    dsimp only at he
    split at he
    · rename_i a q hq
      split at he
      · rename_i i q2 hq2
        split at he
        · rename_i t q3 hq3
          split at he
          · rename_i e hix
            obtain ⟨g1, g2⟩ := xw_c he
            cases g2
            obtain ⟨g1, g3⟩ := xw_bb g1
            obtain ⟨g3, g4⟩ := xw_bb g3
            have g1 := xw_beq g1
            have g3 := of_decide_eq_true g3
            have g4 := of_decide_eq_true g4
            obtain ⟨y, V, rfl, hy, hV⟩ := a_pl_ok i4 hq
            obtain ⟨x, V, rfl, hx, hV, _⟩ := a_pi_ok hV hq2
            obtain ⟨b, V, rfl, hb, hV⟩ := a_pr_ok hV hq3
            obtain ⟨m, k1, k2, k3, k4, k5⟩ := a_ix_ok i1 i5 hx hb hix
            obtain ⟨e1, lo, hi⟩ := e
            dsimp only at g1 g3 g4
            subst g1
            refine ⟨lv, V, xh_ul h b x.toNatClampNeg y, lift _ ?_, a_wl hs k1 k4 (by omega) (by omega) hV⟩
            unfold xe_1 xp_lir
            try dsimp only
            rw [k1]
            show (cond (xe_in x m) _ _) = _
            rw [k2]
            rfl
          · cases he
        · cases he
      · cases he
    · cases he
  case aaload =>
    unfold a_stp at he
    dsimp only at he
    split at he
    · rename_i i q hq
      split at he
      · rename_i t q2 hq2
        split at he
        · rename_i e hix
          obtain ⟨g1, g2⟩ := xw_c he
          cases g2
          have g1 := xw_beq g1
          obtain ⟨x, V, rfl, hx, hV, hk⟩ := a_pi_ok i4 hq
          obtain ⟨b, V, rfl, hb, hV⟩ := a_pr_ok hV hq2
          obtain ⟨m, k1, k2, k3, k4, k5⟩ := a_ix_ok i1 i5 hx hb hix
          unfold a_e at k3
          rw [g1] at k3
          refine ⟨lv, va_rf (xg none h.2.2.2 b x.toNatClampNeg) :: V, h, lift _ ?_, i1, i2, i3, ⟨?_, hV⟩, i5, i6, i7⟩
          · unfold xe_1 xp_ir
            try dsimp only
            rw [k1]
            show (cond (xe_in x m) _ _) = _
            rw [k2]
            rfl
          · cases e1 : xg none h.2.2.2 b x.toNatClampNeg with
            | none => exact Or.inl rfl
            | some q => exact Or.inr ⟨q, rfl, k3 q e1⟩
        · cases he
      · cases he
    · cases he
  all_goals (cases he)
end XAU
