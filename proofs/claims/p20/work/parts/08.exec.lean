section XX
/-- a method: its owner's name, its name, its code, how many locals, what it returns, its kind (0 virtual, 1 static, 2 a constructor), how many arguments, its owner's row in vwCl -/
abbrev xm_M : Type := String × MethodName × ByteArray × Nat × Option FieldType × Nat × Nat × Nat
def xm_cat (vs : List Value) : Nat := (vs.map fun v => v.category).sum
/-- what is not of ours is read: the table of the factorials (1), the law's script (0) -/
def xe_o (scr : Option (Nat × (Nat → Int32))) (r : xr_R) (pc : Nat) (lv : List (Nat × Value)) (st : List Value) (h : xh_H) (c s : Nat) : Option xs_S := match r.1 with
  | .getstatic _ => some (pc + 3, lv, .float 1 :: st, h, c, s)
  | .laload => (match st with
    | .int i :: .float u :: q => cond (Nat.beq u.toNat 1 && xe_in i 13) (some (pc + 1, lv, .long (xo_f i.toNatClampNeg) :: q, h, c, s)) none
    | _ => none)
  | .iaload => (match st with
    | .int i :: .float u :: q => (match scr with
      | some (L, xs) => cond (Nat.beq u.toNat 0 && xe_in i L) (some (pc + 1, lv, .int (xs i.toNatClampNeg) :: q, h, c, s)) none
      | none => none)
    | _ => none)
  | .arraylength => (match st with
    | .float u :: q => (match scr with
      | some (L, _) => cond (Nat.beq u.toNat 0) (some (pc + 1, lv, .int (Int32.ofNat L) :: q, h, c, s)) none
      | none => none)
    | _ => none)
  | _ => none
/-- what a method returns -/
def xe_rv (i : Instr) (ret : Option FieldType) (st : List Value) : Option (Option Value) := match i with
  | .ireturn => (match st with
    | [.int x] => (match ret with
      | some .int => some (some (.int x))
      | some .boolean => cond (decide (x = 0) || decide (x = 1)) (some (some (.int x))) none
      | _ => none)
    | _ => none)
  | .lreturn => (match st with
    | [.long x] => (match ret with
      | some .long => some (some (.long x))
      | _ => none)
    | _ => none)
  | .areturn => (match st with
    | [.ref a] => (match ret with
      | some (.object _) => some (some (.ref a))
      | _ => none)
    | _ => none)
  | .return_ => (match st with
    | [] => (match ret with
      | none => some none
      | _ => none)
    | _ => none)
  | _ => none
def xe_isr (i : Instr) : Bool := match i with
  | .ireturn => true
  | .lreturn => true
  | .areturn => true
  | .return_ => true
  | _ => false
/-- a call's arguments, and what lies under them: behind each other the method, its arguments (the receiver first), the rest of the stack -/
def xe_cl (M : Nat → Option xm_M) (r : xr_R) (st : List Value) (h : xh_H) : Option (xm_M × List Value × List Value) := match M r.2.2.1 with
  | none => none
  | some mi => (match r.1 with
    | .invokestatic _ => cond (Nat.beq r.2.2.2.1 0 && (Nat.beq mi.2.2.2.2.2.1 1 && (Nat.beq (st.take mi.2.2.2.2.2.2.1).length mi.2.2.2.2.2.2.1 && (Nat.ble (xm_cat (st.drop mi.2.2.2.2.2.2.1)) 8 && Nat.ble (xm_cat (st.take mi.2.2.2.2.2.2.1).reverse) mi.2.2.2.1)))) (some (mi, (st.take mi.2.2.2.2.2.2.1).reverse, st.drop mi.2.2.2.2.2.2.1)) none
    | .invokevirtual _ => (match st.drop mi.2.2.2.2.2.2.1 with
      | .ref b :: q => (match h.1[b]? with
        | some (0, ci) => cond (Nat.beq ci mi.2.2.2.2.2.2.2 && (Nat.beq mi.2.2.2.2.2.1 0 && (Nat.beq (st.take mi.2.2.2.2.2.2.1).length mi.2.2.2.2.2.2.1 && (Nat.ble (xm_cat q) 8 && Nat.ble (xm_cat (.ref b :: (st.take mi.2.2.2.2.2.2.1).reverse)) mi.2.2.2.1)))) (some (mi, .ref b :: (st.take mi.2.2.2.2.2.2.1).reverse, q)) none
        | _ => none)
      | _ => none)
    | .invokespecial _ => (match st.drop mi.2.2.2.2.2.2.1 with
      | .ref b :: q => cond (Nat.beq r.2.2.2.1 0 && (Nat.beq mi.2.2.2.2.2.1 2 && (Nat.beq (st.take mi.2.2.2.2.2.2.1).length mi.2.2.2.2.2.2.1 && (Nat.ble (xm_cat q) 8 && Nat.ble (xm_cat (.ref b :: (st.take mi.2.2.2.2.2.2.1).reverse)) mi.2.2.2.1)))) (some (mi, .ref b :: (st.take mi.2.2.2.2.2.2.1).reverse, q)) none
      | _ => none)
    | _ => none)
/-- a String constant's number -/
def js_ok (u : UInt32) : Bool := Nat.ble 2 u.toNat && Nat.ble u.toNat 6
def xe_oi (r : xr_R) (pc d : Nat) (lv : List (Nat × Value)) (st : List Value) (h : xh_H) (c s : Nat) : Option xs_S := match r.1 with
  | .invokevirtual _ => (match r.2.2.2.1 with
    | 3 => (match d with
      | _ + 2 => (match st with
        | .float u :: q => cond (js_ok u && Nat.ble (xm_cat q) 8) (some (pc + 3, lv, .int (js_len (u.toNat - 2)) :: q, h, c, s)) none
        | _ => none)
      | _ => none)
    | 4 => (match d with
      | _ + 4 => (match st with
        | .int k :: .float u :: q => cond (js_ok u && (xe_in k (js_lens.getD (u.toNat - 2) 0) && Nat.ble (xm_cat q) 8)) (some (pc + 3, lv, .int (js_ch (u.toNat - 2) k.toNatClampNeg) :: q, h, c, s)) none
        | _ => none)
      | _ => none)
    | _ => none)
  | .invokespecial _ => (match r.2.2.2.1 with
    | 1 => (match d with
      | 0 => none
      | _ + 1 => (match st with
        | .ref _ :: q => cond (Nat.ble (xm_cat q) 8) (some (pc + 3, lv, q, h, c, s)) none
        | _ => none))
    | _ => none)
  | .invokestatic _ => (match r.2.2.2.1 with
    | 2 => (match d with
      | 0 => none
      | _ + 1 => (match st with
        | .int y :: .int x :: q => cond (Nat.ble (xm_cat q) 8) (some (pc + 3, lv, .int (if y < x then y else x) :: q, h, c, s)) none
        | _ => none))
    | _ => none)
  | _ => none
/-- one step that is no return and no call of ours -/
def xe_2 (scr : Option (Nat × (Nat → Int32))) (nL : Nat) (r : xr_R) (d pc : Nat) (lv : List (Nat × Value)) (st : List Value) (h : xh_H) (c s : Nat) : Option xs_S := match xe_1 nL r pc lv st h c s with
  | some o => some o
  | none => (match xe_o scr r pc lv st h c s with
    | some o => some o
    | none => xe_oi r pc d lv st h c s)
/-- A METHOD, RUN: what it returns, the heap behind it, the cells and slots made -/
def xe_x (M : Nat → Option xm_M) (Cd : Nat → Nat → Option xr_R) (scr : Option (Nat × (Nat → Int32))) : Nat → Nat → Nat → xm_M → xs_S → Option (Option Value × xh_H × Nat × Nat)
  | 0, _, _, _, _ => none
  | f + 1, d, mid, mi, (pc, lv, st, h, c, s) => (match Cd mid pc with
    | none => none
    | some r => cond (xe_isr r.1) ((xe_rv r.1 mi.2.2.2.2.1 st).map (fun v => (v, h, c, s)))
      (match xe_2 scr mi.2.2.2.1 r d pc lv st h c s with
      | some o => xe_x M Cd scr f d mid mi o
      | none => (match d with
        | 0 => none
        | d' + 1 => (match xe_cl M r st h with
          | none => none
          | some (mj, As, q) => (match xe_x M Cd none f d' r.2.2.1 mj (0, lv_args 0 As, [], h, 0, 0) with
            | none => none
            | some (v, h', mc, ms) => xe_x M Cd scr f (d' + 1) mid mi (pc + 3, lv, v.toList ++ q, h', c + mc, s + ms))))))
end XX
