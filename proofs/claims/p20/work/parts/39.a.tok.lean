section XTK
theorem lg0 {x y : Int64} : lg_cmp x y = 0 ↔ x = y := by
  unfold lg_cmp
  constructor
  · intro h
    split at h
    · cases h
    · split at h
      · assumption
      · cases h
  · intro h
    subst h
    rw [if_neg (fun z => by have := Int64.lt_iff_toInt_lt.mp z; omega), if_pos rfl]
def bl (b : Bool) : Int32 := cond b 1 0
theorem bl_ne {b : Bool} : xe_c .ne (bl b) 0 = b := by cases b <;> rfl
theorem bl_eq {b : Bool} : xe_c .eq (bl b) 0 = !b := by cases b <;> rfl
variable {d : Nat} {h : xh_H} {c : Int32}
def isL (c : Int32) : Bool := decide (97 ≤ c.toInt) && decide (c.toInt ≤ 122)
def isD (c : Int32) : Bool := decide (48 ≤ c.toInt) && decide (c.toInt ≤ 57)
set_option maxRecDepth 100000 in
theorem isL_run (hq : a_rq a_tb h) : xt_P d xi_X10_isLetter xmi_X10_isLetter 0 [(0, .int c)] [] h (fun v h' => h = h' ∧ v = some (.int (bl (isL c)))) := by
  have zl : (97 : Int32).toInt = 97 := rfl
  have zh : (122 : Int32).toInt = 122 := rfl
  cases c1 : xe_c .lt c 97 with
  | true =>
    have b1 : c.toInt < (97 : Int32).toInt := a_ce c1
    refine xa_tn 17 [] [] [.int (Int32.ofInt 0)] h [true] 6 hq rfl ⟨c1, trivial⟩ (fun _ => ?_)
    refine xp_ret rfl rfl rfl ⟨rfl, ?_⟩
    unfold isL
    rw [decide_eq_false (by omega)]
    rfl
  | false =>
    have b1 : (97 : Int32).toInt ≤ c.toInt := a_ce (a_neg_ok c1)
    cases c2 : xe_c .gt c 122 with
    | true =>
      have b2 : (122 : Int32).toInt < c.toInt := a_ce c2
      refine xa_tn 17 [] [] [.int (Int32.ofInt 0)] h [false, true] 9 hq rfl ⟨c1, c2, trivial⟩ (fun _ => ?_)
      refine xp_ret rfl rfl rfl ⟨rfl, ?_⟩
      unfold isL
      rw [decide_eq_false (show ¬ c.toInt ≤ 122 by omega), Bool.and_false]
      rfl
    | false =>
      have b2 : c.toInt ≤ (122 : Int32).toInt := a_ce (a_neg_ok c2)
      refine xa_tn 17 [] [] [.int (Int32.ofInt 1)] h [false, false] 10 hq rfl ⟨c1, c2, trivial⟩ (fun _ => ?_)
      refine xp_ret rfl rfl rfl ⟨rfl, ?_⟩
      unfold isL
      rw [decide_eq_true (show 97 ≤ c.toInt by omega), decide_eq_true (show c.toInt ≤ 122 by omega)]
      rfl
set_option maxRecDepth 100000 in
theorem isD_run (hq : a_rq a_tb h) : xt_P d xi_X10_isDigit xmi_X10_isDigit 0 [(0, .int c)] [] h (fun v h' => h = h' ∧ v = some (.int (bl (isD c)))) := by
  have zl : (48 : Int32).toInt = 48 := rfl
  have zh : (57 : Int32).toInt = 57 := rfl
  cases c1 : xe_c .lt c 48 with
  | true =>
    have b1 : c.toInt < (48 : Int32).toInt := a_ce c1
    refine xa_tn 17 [] [] [.int (Int32.ofInt 0)] h [true] 6 hq rfl ⟨c1, trivial⟩ (fun _ => ?_)
    refine xp_ret rfl rfl rfl ⟨rfl, ?_⟩
    unfold isD
    rw [decide_eq_false (by omega)]
    rfl
  | false =>
    have b1 : (48 : Int32).toInt ≤ c.toInt := a_ce (a_neg_ok c1)
    cases c2 : xe_c .gt c 57 with
    | true =>
      have b2 : (57 : Int32).toInt < c.toInt := a_ce c2
      refine xa_tn 17 [] [] [.int (Int32.ofInt 0)] h [false, true] 9 hq rfl ⟨c1, c2, trivial⟩ (fun _ => ?_)
      refine xp_ret rfl rfl rfl ⟨rfl, ?_⟩
      unfold isD
      rw [decide_eq_false (show ¬ c.toInt ≤ 57 by omega), Bool.and_false]
      rfl
    | false =>
      have b2 : c.toInt ≤ (57 : Int32).toInt := a_ce (a_neg_ok c2)
      refine xa_tn 17 [] [] [.int (Int32.ofInt 1)] h [false, false] 10 hq rfl ⟨c1, c2, trivial⟩ (fun _ => ?_)
      refine xp_ret rfl rfl rfl ⟨rfl, ?_⟩
      unfold isD
      rw [decide_eq_true (show 48 ≤ c.toInt by omega), decide_eq_true (show c.toInt ≤ 57 by omega)]
      rfl
set_option maxRecDepth 100000 in
/-- byteAt -/
theorem ba_run {p sz : Nat} (hq : a_rq a_tb h) (hsz : xg 0 h.2.1 39 6 = nI sz) (s640 : sz ≤ 640) (p640 : p ≤ 640) : xt_P d xi_X10_byteAt xmi_X10_byteAt 0 [(0, .ref 39), (1, .int (nI p))] [] h (fun v h' => h = h' ∧ v = some (.int (if p < sz then xg 0 h.2.1 40 p else 0))) := by
  by_cases hp : p < sz
  · refine xa_tn 18 [] [] [.int (xg 0 h.2.1 40 (nI p).toNatClampNeg)] h [false] 11 hq rfl ⟨(show xe_c .ge (nI p) (xg 0 h.2.1 39 6) = false by rw [hsz]; exact nge_f (by omega) (by omega) hp), xin_n (by omega) (by omega), trivial⟩ (fun _ => ?_)
    rw [nI_clamp (by omega)]
    exact xp_ret rfl rfl rfl ⟨rfl, by rw [if_pos hp]⟩
  · refine xa_tn 18 [] [] [.int (Int32.ofInt 0)] h [true] 7 hq rfl ⟨(show xe_c .ge (nI p) (xg 0 h.2.1 39 6) = true by rw [hsz]; exact nge_t (by omega) (by omega) (by omega)), trivial⟩ (fun _ => ?_)
    exact xp_ret rfl rfl rfl ⟨rfl, by rw [if_neg hp]; rfl⟩
theorem xne_i {x y : Int32} (z : xe_c .ne x y = true) : x ≠ y := by
  have z : (!decide (x = y)) = true := z
  rw [Bool.not_eq_true'] at z
  exact of_decide_eq_false z
theorem xne_j {x y : Int32} (z : xe_c .ne x y = false) : x = y := by
  have z : (!decide (x = y)) = false := z
  rw [Bool.not_eq_false'] at z
  exact of_decide_eq_true z
/-- the token is a sign -/
def sgb (h : xh_H) (c : Int32) : Bool := decide (xg 0 h.2.1 39 9 = 4) && decide (xg 0 h.2.1 39 11 = c)
set_option maxRecDepth 100000 in
theorem sg_run (hq : a_rq a_tb h) : xt_P d xi_X10_isSign xmi_X10_isSign 0 [(0, .ref 39), (1, .int c)] [] h (fun v h' => h = h' ∧ v = some (.int (bl (sgb h c)))) := by
  cases c1 : xe_c .ne (xg 0 h.2.1 39 9) (Int32.ofInt 4) with
  | true =>
    refine xa_tn 21 [] [] [.int (Int32.ofInt 0)] h [true] 7 hq rfl ⟨c1, trivial⟩ (fun _ => ?_)
    refine xp_ret rfl rfl rfl ⟨rfl, ?_⟩
    unfold sgb
    rw [decide_eq_false (show ¬ xg 0 h.2.1 39 9 = 4 from xne_i c1)]
    rfl
  | false =>
    cases c2 : xe_c .ne (xg 0 h.2.1 39 11) c with
    | true =>
      refine xa_tn 21 [] [] [.int (Int32.ofInt 0)] h [false, true] 11 hq rfl ⟨c1, c2, trivial⟩ (fun _ => ?_)
      refine xp_ret rfl rfl rfl ⟨rfl, ?_⟩
      unfold sgb
      rw [decide_eq_false (xne_i c2), Bool.and_false]
      rfl
    | false =>
      refine xa_tn 21 [] [] [.int (Int32.ofInt 1)] h [false, false] 12 hq rfl ⟨c1, c2, trivial⟩ (fun _ => ?_)
      refine xp_ret rfl rfl rfl ⟨rfl, ?_⟩
      unfold sgb
      rw [decide_eq_true (show xg 0 h.2.1 39 9 = 4 from xne_j c1), decide_eq_true (xne_j c2)]
      rfl
/-- the token is a word -/
def kyb (h : xh_H) (w : Int64) : Bool := decide (xg 0 h.2.1 39 9 = 2) && decide (xg 0 h.2.2.1 39 15 = w)
set_option maxRecDepth 100000 in
theorem ky_run {w : Int64} (hq : a_rq a_tb h) : xt_P d xi_X10_isKey xmi_X10_isKey 0 [(0, .ref 39), (1, .long w)] [] h (fun v h' => h = h' ∧ v = some (.int (bl (kyb h w)))) := by
  cases c1 : xe_c .ne (xg 0 h.2.1 39 9) (Int32.ofInt 2) with
  | true =>
    refine xa_tn 22 [] [] [.int (Int32.ofInt 0)] h [true] 7 hq rfl ⟨c1, trivial⟩ (fun _ => ?_)
    refine xp_ret rfl rfl rfl ⟨rfl, ?_⟩
    unfold kyb
    rw [decide_eq_false (show ¬ xg 0 h.2.1 39 9 = 2 from xne_i c1)]
    rfl
  | false =>
    cases c2 : xe_c .ne (lg_cmp (xg 0 h.2.2.1 39 15) w) 0 with
    | true =>
      refine xa_tn 22 [] [] [.int (Int32.ofInt 0)] h [false, true] 12 hq rfl ⟨c1, c2, trivial⟩ (fun _ => ?_)
      refine xp_ret rfl rfl rfl ⟨rfl, ?_⟩
      unfold kyb
      rw [decide_eq_false (fun z => xne_i c2 (lg0.mpr z)), Bool.and_false]
      rfl
    | false =>
      refine xa_tn 22 [] [] [.int (Int32.ofInt 1)] h [false, false] 13 hq rfl ⟨c1, c2, trivial⟩ (fun _ => ?_)
      refine xp_ret rfl rfl rfl ⟨rfl, ?_⟩
      unfold kyb
      rw [decide_eq_true (show xg 0 h.2.1 39 9 = 2 from xne_j c1), decide_eq_true (lg0.mp (xne_j c2))]
      rfl
set_option maxRecDepth 100000 in
set_option maxHeartbeats 4000000 in
/-- 'body' -/
theorem isBody_run (hq : a_rq a_tb h) : xt_P (d + 1) xi_X10_isBody xmi_X10_isBody 0 [(0, .ref 39)] [] h (fun v h' => h = h' ∧ v = some (.int (bl (kyb h 50434)))) := by
  refine xa_tn 10 [] [] [.int (Int32.ofInt 0), .int 121, .int 100, .int 111, .int 98, .ref 39] h [] 8 hq rfl trivial (fun _ => ?_)
  refine xp_run (d := d) (Q1 := fun v h' => h = h' ∧ v = some (.long 50434)) hq rfl rfl ?_ ?_
  · refine xa_tn 81 [] [] [.long (((27 * (((27 * (((27 * ((98 : Int32).toInt64 - 96)) + (111 : Int32).toInt64) - 96)) + (100 : Int32).toInt64) - 96)) + (121 : Int32).toInt64) - 96)] h [false, false, true] 39 hq rfl ⟨by decide, by decide, by decide, trivial⟩ (fun _ => ?_)
    exact xp_ret rfl rfl rfl ⟨rfl, by decide +kernel⟩
  · rintro v h1 ⟨rfl, rfl⟩
    refine xp_run hq rfl rfl (ky_run (d := d) hq) ?_
    rintro v h1 ⟨rfl, rfl⟩
    exact xp_ret rfl rfl (by cases kyb h 50434 <;> rfl) ⟨rfl, rfl⟩
set_option maxRecDepth 100000 in
set_option maxHeartbeats 4000000 in
/-- 'carry' -/
theorem isCarry_run (hq : a_rq a_tb h) : xt_P (d + 1) xi_X10_isCarry xmi_X10_isCarry 0 [(0, .ref 39)] [] h (fun v h' => h = h' ∧ v = some (.int (bl (kyb h 1627639)))) := by
  refine xa_tn 11 [] [] [.int 121, .int 114, .int 114, .int 97, .int 99, .ref 39] h [] 8 hq rfl trivial (fun _ => ?_)
  refine xp_run (d := d) (Q1 := fun v h' => h = h' ∧ v = some (.long 1627639)) hq rfl rfl ?_ ?_
  · refine xa_tn 81 [] [] [.long (((27 * (((27 * (((27 * (((27 * ((99 : Int32).toInt64 - 96)) + (97 : Int32).toInt64) - 96)) + (114 : Int32).toInt64) - 96)) + (114 : Int32).toInt64) - 96)) + (121 : Int32).toInt64) - 96)] h [false, false, false] 47 hq rfl ⟨by decide, by decide, by decide, trivial⟩ (fun _ => ?_)
    exact xp_ret rfl rfl rfl ⟨rfl, by decide +kernel⟩
  · rintro v h1 ⟨rfl, rfl⟩
    refine xp_run hq rfl rfl (ky_run (d := d) hq) ?_
    rintro v h1 ⟨rfl, rfl⟩
    exact xp_ret rfl rfl (by cases kyb h 1627639 <;> rfl) ⟨rfl, rfl⟩
set_option maxRecDepth 100000 in
set_option maxHeartbeats 4000000 in
/-- 'and' -/
theorem isAnd_run (hq : a_rq a_tb h) : xt_P (d + 1) xi_X10_isAnd xmi_X10_isAnd 0 [(0, .ref 39)] [] h (fun v h' => h = h' ∧ v = some (.int (bl (kyb h 1111)))) := by
  refine xa_tn 9 [] [] [.int (Int32.ofInt 0), .int (Int32.ofInt 0), .int 100, .int 110, .int 97, .ref 39] h [] 8 hq rfl trivial (fun _ => ?_)
  refine xp_run (d := d) (Q1 := fun v h' => h = h' ∧ v = some (.long 1111)) hq rfl rfl ?_ ?_
  · refine xa_tn 81 [] [] [.long (((27 * (((27 * ((97 : Int32).toInt64 - 96)) + (110 : Int32).toInt64) - 96)) + (100 : Int32).toInt64) - 96)] h [false, true, true] 30 hq rfl ⟨by decide, by decide, by decide, trivial⟩ (fun _ => ?_)
    exact xp_ret rfl rfl rfl ⟨rfl, by decide +kernel⟩
  · rintro v h1 ⟨rfl, rfl⟩
    refine xp_run hq rfl rfl (ky_run (d := d) hq) ?_
    rintro v h1 ⟨rfl, rfl⟩
    exact xp_ret rfl rfl (by cases kyb h 1111 <;> rfl) ⟨rfl, rfl⟩
set_option maxRecDepth 100000 in
set_option maxHeartbeats 4000000 in
/-- 'or' -/
theorem isOr_run (hq : a_rq a_tb h) : xt_P (d + 1) xi_X10_isOr xmi_X10_isOr 0 [(0, .ref 39)] [] h (fun v h' => h = h' ∧ v = some (.int (bl (kyb h 423)))) := by
  refine xa_tn 8 [] [] [.int (Int32.ofInt 0), .int (Int32.ofInt 0), .int (Int32.ofInt 0), .int 114, .int 111, .ref 39] h [] 8 hq rfl trivial (fun _ => ?_)
  refine xp_run (d := d) (Q1 := fun v h' => h = h' ∧ v = some (.long 423)) hq rfl rfl ?_ ?_
  · refine xa_tn 81 [] [] [.long (((27 * ((111 : Int32).toInt64 - 96)) + (114 : Int32).toInt64) - 96)] h [true, true, true] 21 hq rfl ⟨by decide, by decide, by decide, trivial⟩ (fun _ => ?_)
    exact xp_ret rfl rfl rfl ⟨rfl, by decide +kernel⟩
  · rintro v h1 ⟨rfl, rfl⟩
    refine xp_run hq rfl rfl (ky_run (d := d) hq) ?_
    rintro v h1 ⟨rfl, rfl⟩
    exact xp_ret rfl rfl (by cases kyb h 423 <;> rfl) ⟨rfl, rfl⟩
set_option maxRecDepth 100000 in
set_option maxHeartbeats 4000000 in
/-- 'of' -/
theorem isOf_run (hq : a_rq a_tb h) : xt_P (d + 1) xi_X10_isOf xmi_X10_isOf 0 [(0, .ref 39)] [] h (fun v h' => h = h' ∧ v = some (.int (bl (kyb h 411)))) := by
  refine xa_tn 8 [] [] [.int (Int32.ofInt 0), .int (Int32.ofInt 0), .int (Int32.ofInt 0), .int 102, .int 111, .ref 39] h [] 8 hq rfl trivial (fun _ => ?_)
  refine xp_run (d := d) (Q1 := fun v h' => h = h' ∧ v = some (.long 411)) hq rfl rfl ?_ ?_
  · refine xa_tn 81 [] [] [.long (((27 * ((111 : Int32).toInt64 - 96)) + (102 : Int32).toInt64) - 96)] h [true, true, true] 21 hq rfl ⟨by decide, by decide, by decide, trivial⟩ (fun _ => ?_)
    exact xp_ret rfl rfl rfl ⟨rfl, by decide +kernel⟩
  · rintro v h1 ⟨rfl, rfl⟩
    refine xp_run hq rfl rfl (ky_run (d := d) hq) ?_
    rintro v h1 ⟨rfl, rfl⟩
    exact xp_ret rfl rfl (by cases kyb h 411 <;> rfl) ⟨rfl, rfl⟩
/-- the token is a name -/
def nmb (h : xh_H) : Bool := decide (xg 0 h.2.1 39 9 = 2) && (decide (1 < (xg 0 h.2.1 39 12).toInt) && (!(kyb h 50434) && (!(kyb h 1627639) && (!(kyb h 1111) && (!(kyb h 423) && !(kyb h 411))))))
set_option maxRecDepth 100000 in
set_option maxHeartbeats 4000000 in
theorem nm_run (hq : a_rq a_tb h) : xt_P (d + 2) xi_X10_isName xmi_X10_isName 0 [(0, .ref 39)] [] h (fun v h' => h = h' ∧ v = some (.int (bl (nmb h)))) := by
  unfold nmb
  cases c1 : xe_c .ne (xg 0 h.2.1 39 9) (Int32.ofInt 2) with
  | true =>
    refine xa_tn 56 [] [] [.int (Int32.ofInt 0)] h [true] 7 hq rfl ⟨c1, trivial⟩ (fun _ => ?_)
    refine xp_ret rfl rfl rfl ⟨rfl, ?_⟩
    rw [decide_eq_false (show ¬ xg 0 h.2.1 39 9 = 2 from xne_i c1)]
    rfl
  | false =>
    rw [decide_eq_true (show xg 0 h.2.1 39 9 = 2 from xne_j c1)]
    cases c2 : xe_c .le (xg 0 h.2.1 39 12) (Int32.ofInt 1) with
    | true =>
      have b2 : (xg 0 h.2.1 39 12).toInt ≤ (1 : Int) := a_ce c2
      refine xa_tn 56 [] [] [.int (Int32.ofInt 0)] h [false, true] 11 hq rfl ⟨c1, c2, trivial⟩ (fun _ => ?_)
      refine xp_ret rfl rfl rfl ⟨rfl, ?_⟩
      rw [decide_eq_false (show ¬ 1 < (xg 0 h.2.1 39 12).toInt by omega)]
      rfl
    | false =>
      have b2 : (1 : Int) < (xg 0 h.2.1 39 12).toInt := a_ce (a_neg_ok c2)
      rw [decide_eq_true b2]
      refine xa_tn 17 [0] [(0, .ref 39)] [.ref 39] h [false, false] 11 hq rfl ⟨c1, c2, trivial⟩ (fun _ => ?_)
      refine xp_run hq rfl rfl (isBody_run (d := d) hq) ?_
      rintro v h1 ⟨rfl, rfl⟩
      cases kyb h 50434 with
      | true =>
        refine xa_tn 56 [] [] [.int (Int32.ofInt 0)] h [true] 4 hq rfl ⟨rfl, trivial⟩ (fun _ => ?_)
        exact xp_ret rfl rfl rfl ⟨rfl, rfl⟩
      | false =>
        refine xa_tn 24 [0] [(0, .ref 39)] [.ref 39] h [false] 4 hq rfl ⟨rfl, trivial⟩ (fun _ => ?_)
        refine xp_run hq rfl rfl (isCarry_run (d := d) hq) ?_
        rintro v h1 ⟨rfl, rfl⟩
        cases kyb h 1627639 with
        | true =>
          refine xa_tn 56 [] [] [.int (Int32.ofInt 0)] h [true] 4 hq rfl ⟨rfl, trivial⟩ (fun _ => ?_)
          exact xp_ret rfl rfl rfl ⟨rfl, rfl⟩
        | false =>
          refine xa_tn 31 [0] [(0, .ref 39)] [.ref 39] h [false] 4 hq rfl ⟨rfl, trivial⟩ (fun _ => ?_)
          refine xp_run hq rfl rfl (isAnd_run (d := d) hq) ?_
          rintro v h1 ⟨rfl, rfl⟩
          cases kyb h 1111 with
          | true =>
            refine xa_tn 56 [] [] [.int (Int32.ofInt 0)] h [true] 4 hq rfl ⟨rfl, trivial⟩ (fun _ => ?_)
            exact xp_ret rfl rfl rfl ⟨rfl, rfl⟩
          | false =>
            refine xa_tn 38 [0] [(0, .ref 39)] [.ref 39] h [false] 4 hq rfl ⟨rfl, trivial⟩ (fun _ => ?_)
            refine xp_run hq rfl rfl (isOr_run (d := d) hq) ?_
            rintro v h1 ⟨rfl, rfl⟩
            cases kyb h 423 with
            | true =>
              refine xa_tn 56 [] [] [.int (Int32.ofInt 0)] h [true] 4 hq rfl ⟨rfl, trivial⟩ (fun _ => ?_)
              exact xp_ret rfl rfl rfl ⟨rfl, rfl⟩
            | false =>
              refine xa_tn 45 [0] [(0, .ref 39)] [.ref 39] h [false] 4 hq rfl ⟨rfl, trivial⟩ (fun _ => ?_)
              refine xp_run hq rfl rfl (isOf_run (d := d) hq) ?_
              rintro v h1 ⟨rfl, rfl⟩
              cases kyb h 411 with
              | true =>
                refine xa_tn 56 [] [] [.int (Int32.ofInt 0)] h [true] 4 hq rfl ⟨rfl, trivial⟩ (fun _ => ?_)
                exact xp_ret rfl rfl rfl ⟨rfl, rfl⟩
              | false =>
                refine xa_tn 56 [] [] [.int (Int32.ofInt 1)] h [false] 5 hq rfl ⟨rfl, trivial⟩ (fun _ => ?_)
                exact xp_ret rfl rfl rfl ⟨rfl, rfl⟩
/-- the name at hand was told as the k-th -/
def nhp (h : xh_H) (k : Nat) : Prop := xg 0 h.2.2.1 50 k = xg 0 h.2.2.1 39 15
set_option maxRecDepth 100000 in
set_option maxHeartbeats 4000000 in
theorem nh_loop {n : Nat} (hq : a_rq a_tb h) (hn : xg 0 h.2.1 39 26 = nI n) (n16 : n ≤ 16) : ∀ (m k : Nat), k + m = n → (∀ j, j < k → ¬ nhp h j) → xt_P d xi_X10_nameAtHand xmi_X10_nameAtHand 2 [(0, .ref 39), (1, .int (nI k))] [] h (fun v h' => h = h' ∧ ((v = some (.int (Int32.ofInt (-1))) ∧ ∀ j, j < n → ¬ nhp h j) ∨ ∃ k, k < n ∧ v = some (.int (nI k)) ∧ nhp h k)) := by
  intro m
  induction m with
  | zero =>
    intro k hk' hall
    have e : k = n := by omega
    subst e
    refine xa_tn 33 [] [] [.int (Int32.ofInt (-1))] h [true] 7 hq rfl ⟨(show xe_c .ge (nI k) (xg 0 h.2.1 39 26) = true by rw [hn]; exact nge_t (by omega) (by omega) (Nat.le_refl _)), trivial⟩ (fun _ => ?_)
    exact xp_ret rfl rfl rfl ⟨rfl, Or.inl ⟨rfl, hall⟩⟩
  | succ m ih =>
    intro k hk' hall
    have hge : xe_c .ge (nI k) (xg 0 h.2.1 39 26) = false := by rw [hn]; exact nge_f (by omega) (by omega) (by omega)
    have hin := xin_n (k := k) (n := 16) (by omega) (by omega)
    have ekc : (nI k).toNatClampNeg = k := nI_clamp (by omega)
    have e1 : nI k + Int32.ofInt 1 = nI (k + 1) := nI_1 k
    cases c1 : xe_c .ne (lg_cmp (xg 0 h.2.2.1 50 (nI k).toNatClampNeg) (xg 0 h.2.2.1 39 15)) 0 with
    | false =>
      refine xa_tn 25 [] [] [.int (nI k)] h [false, false] 15 hq rfl ⟨hge, hin, c1, trivial⟩ (fun _ => ?_)
      refine xp_ret rfl rfl rfl ⟨rfl, Or.inr ⟨k, by omega, rfl, ?_⟩⟩
      have := lg0.mp (xne_j c1)
      rw [ekc] at this
      exact this
    | true =>
      refine xa_tn 2 [0, 1] [(0, .ref 39), (1, .int ((nI k) + Int32.ofInt 1))] [] h [false, true] 16 hq rfl ⟨hge, hin, c1, trivial⟩ (fun _ => ?_)
      rw [e1]
      refine ih (k + 1) (by omega) (fun j hj z => ?_)
      by_cases e : j = k
      · subst e
        rw [ekc] at c1
        exact xne_i c1 (lg0.mpr z)
      · exact hall j (by omega) z
set_option maxRecDepth 100000 in
theorem nh_run {n : Nat} (hq : a_rq a_tb h) (hn : xg 0 h.2.1 39 26 = nI n) (n16 : n ≤ 16) : xt_P d xi_X10_nameAtHand xmi_X10_nameAtHand 0 [(0, .ref 39)] [] h (fun v h' => h = h' ∧ ((v = some (.int (Int32.ofInt (-1))) ∧ ∀ j, j < n → ¬ nhp h j) ∨ ∃ k, k < n ∧ v = some (.int (nI k)) ∧ nhp h k)) := by
  refine xa_tn 2 [0, 1] [(0, .ref 39), (1, .int (Int32.ofInt 0))] [] h [] 4 hq rfl trivial (fun _ => ?_)
  exact nh_loop hq hn n16 n 0 (by omega) (fun j hj => absurd hj (Nat.not_lt_zero j))
end XTK
