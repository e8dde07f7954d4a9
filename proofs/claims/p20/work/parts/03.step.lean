section XE
/-- a row of a method's code: the instruction, its length, two numbers that its operand stands for, and where its word lies -/
abbrev xr_R : Type := Instr × Nat × Nat × Nat × Nat × Nat
/-- a frame: where it is, its locals, its stack, the heap, how many cells and slots were made -/
abbrev xs_S : Type := Nat × List (Nat × Value) × List Value × xh_H × Nat × Nat
def xv_k (k : Nat) (v : Value) : Bool := match v with
  | .int _ => Nat.beq k 0
  | .long _ => Nat.beq k 1
  | .ref _ => Nat.beq k 2
  | .null => Nat.beq k 2
  | .float _ => Nat.beq k 2
  | _ => false
def xe_ld (k i len pc : Nat) (lv : List (Nat × Value)) (st : List Value) (h : xh_H) (c s : Nat) : Option xs_S := match xl_get lv i with
  | some v => cond (xv_k k v) (some (pc + len, lv, v :: st, h, c, s)) none
  | none => none
def xe_st1 (k i len pc nL : Nat) (lv : List (Nat × Value)) (st : List Value) (h : xh_H) (c s : Nat) : Option xs_S := match st with
  | v :: r => cond (xv_k k v && Nat.ble (i + 1) nL) (some (pc + len, xl_1 lv i v, r, h, c, s)) none
  | [] => none
def xe_st2 (i len pc nL : Nat) (lv : List (Nat × Value)) (st : List Value) (h : xh_H) (c s : Nat) : Option xs_S := match st with
  | v :: r => cond (xv_k 1 v && Nat.ble (i + 2) nL) (some (pc + len, xl_2 lv i v, r, h, c, s)) none
  | [] => none
def xe_c (k : ClassFile.Cond) (x y : Int32) : Bool := match k with
  | .eq => decide (x = y)
  | .ne => !decide (x = y)
  | .lt => decide (x < y)
  | .ge => decide (y ≤ x)
  | .gt => decide (y < x)
  | .le => decide (x ≤ y)
def xh_ui (h : xh_H) (c k : Nat) (x : Int32) : xh_H := (h.1, xh_up 0 h.2.1 c k x, h.2.2.1, h.2.2.2)
def xh_ul (h : xh_H) (c k : Nat) (x : Int64) : xh_H := (h.1, h.2.1, xh_up 0 h.2.2.1 c k x, h.2.2.2)
def xh_ur (h : xh_H) (c k : Nat) (x : Option Nat) : xh_H := (h.1, h.2.1, h.2.2.1, xh_up none h.2.2.2 c k x)
def xh_nw (h : xh_H) (sh : Nat × Nat) : xh_H := (h.1 ++ [sh], xh_rs h.2.1 h.1.length, xh_rs h.2.2.1 h.1.length, xh_rs h.2.2.2 h.1.length)
/-- a field is written -/
def xe_put (h : xh_H) (c : Nat) (ty : FieldType) (k : Nat) (v : Value) : Option xh_H := match ty with
  | .int => (match v with
    | .int x => some (xh_ui h c k x)
    | _ => none)
  | .boolean => (match v with
    | .int x => cond (decide (x = 0) || decide (x = 1)) (some (xh_ui h c k x)) none
    | _ => none)
  | .long => (match v with
    | .long x => some (xh_ul h c k x)
    | _ => none)
  | .object _ => (match v with
    | .ref q => some (xh_ur h c k (some q))
    | _ => none)
  | .array _ => (match v with
    | .ref q => some (xh_ur h c k (some q))
    | _ => none)
  | _ => none
def xe_in (i : Int32) (n : Nat) : Bool := !decide (i < 0) && Nat.ble (i.toNatClampNeg + 1) n
def xa_k (t : ArrayType) : Nat := match t with
  | .int => 1
  | .byte => 2
  | .boolean => 3
  | .long => 4
  | _ => 9
/-- ONE INSTRUCTION (no call, no return) -/
def xe_1 (nL : Nat) (r : xr_R) (pc : Nat) (lv : List (Nat × Value)) (st : List Value) (h : xh_H) (c s : Nat) : Option xs_S := match r.1 with
  | .iconst n => some (pc + 1, lv, .int (Int32.ofInt n) :: st, h, c, s)
  | .bipush n => some (pc + 2, lv, .int (Int8.ofInt n).toInt32 :: st, h, c, s)
  | .sipush n => some (pc + 3, lv, .int (Int16.ofInt n).toInt32 :: st, h, c, s)
  | .lconst n => some (pc + 1, lv, .long (Int64.ofNat (n : Nat)) :: st, h, c, s)
  | .ldc _ => (match r.2.2.2.1 with
    | 0 => some (pc + 2, lv, .int (Int32.ofNat r.2.2.1) :: st, h, c, s)
    | _ => some (pc + 2, lv, .float (UInt32.ofNat r.2.2.1) :: st, h, c, s))
  | .ldc_w _ => some (pc + 3, lv, .int (Int32.ofNat r.2.2.1) :: st, h, c, s)
  | .ldc2_w _ => some (pc + 3, lv, .long (Int64.ofNat r.2.2.1) :: st, h, c, s)
  | .iload_n k => xe_ld 0 k 1 pc lv st h c s
  | .iload k => xe_ld 0 k 2 pc lv st h c s
  | .lload_n k => xe_ld 1 k 1 pc lv st h c s
  | .lload k => xe_ld 1 k 2 pc lv st h c s
  | .aload_n k => xe_ld 2 k 1 pc lv st h c s
  | .aload k => xe_ld 2 k 2 pc lv st h c s
  | .istore_n k => xe_st1 0 k 1 pc nL lv st h c s
  | .istore k => xe_st1 0 k 2 pc nL lv st h c s
  | .astore_n k => xe_st1 2 k 1 pc nL lv st h c s
  | .astore k => xe_st1 2 k 2 pc nL lv st h c s
  | .lstore_n k => xe_st2 k 1 pc nL lv st h c s
  | .lstore k => xe_st2 k 2 pc nL lv st h c s
  | .iinc i n => (match xl_get lv i with
    | some (.int x) => cond (Nat.ble (i + 1) nL) (some (pc + 3, xl_1 lv i (.int (x + Int32.ofInt n)), st, h, c, s)) none
    | _ => none)
  | .iadd => xp_ii st (fun y x r => some (pc + 1, lv, .int (x + y) :: r, h, c, s))
  | .isub => xp_ii st (fun y x r => some (pc + 1, lv, .int (x - y) :: r, h, c, s))
  | .imul => xp_ii st (fun y x r => some (pc + 1, lv, .int (x * y) :: r, h, c, s))
  | .iand => xp_ii st (fun y x r => some (pc + 1, lv, .int (x &&& y) :: r, h, c, s))
  | .ior => xp_ii st (fun y x r => some (pc + 1, lv, .int (x ||| y) :: r, h, c, s))
  | .ixor => xp_ii st (fun y x r => some (pc + 1, lv, .int (x ^^^ y) :: r, h, c, s))
  | .ishl => xp_ii st (fun y x r => some (pc + 1, lv, .int (x <<< (y &&& 31)) :: r, h, c, s))
  | .ishr => xp_ii st (fun y x r => some (pc + 1, lv, .int (x >>> (y &&& 31)) :: r, h, c, s))
  | .iushr => xp_ii st (fun y x r => some (pc + 1, lv, .int (x.toUInt32 >>> (y.toUInt32 &&& Int32.toUInt32 31)).toInt32 :: r, h, c, s))
  | .irem => xp_ii st (fun y x r => cond (decide (y = 0)) none (some (pc + 1, lv, .int (x - x / y * y) :: r, h, c, s)))
  | .ladd => xp_ll st (fun y x r => some (pc + 1, lv, .long (x + y) :: r, h, c, s))
  | .lsub => xp_ll st (fun y x r => some (pc + 1, lv, .long (x - y) :: r, h, c, s))
  | .lmul => xp_ll st (fun y x r => some (pc + 1, lv, .long (x * y) :: r, h, c, s))
  | .land => xp_ll st (fun y x r => some (pc + 1, lv, .long (x &&& y) :: r, h, c, s))
  | .lor => xp_ll st (fun y x r => some (pc + 1, lv, .long (x ||| y) :: r, h, c, s))
  | .ldiv => xp_ll st (fun y x r => cond (decide (y = 0)) none (some (pc + 1, lv, .long (x / y) :: r, h, c, s)))
  | .lrem => xp_ll st (fun y x r => cond (decide (y = 0)) none (some (pc + 1, lv, .long (x - x / y * y) :: r, h, c, s)))
  | .lushr => xp_il st (fun y x r => some (pc + 1, lv, .long (x.toUInt64 >>> (y.toInt64.toUInt64 &&& Int64.toUInt64 63)).toInt64 :: r, h, c, s))
  | .lshl => xp_il st (fun y x r => some (pc + 1, lv, .long (x <<< (y.toInt64 &&& 63)) :: r, h, c, s))
  | .lcmp => xp_ll st (fun y x r => some (pc + 1, lv, .int (lg_cmp x y) :: r, h, c, s))
  | .i2l => xp_i st (fun x r => some (pc + 1, lv, .long x.toInt64 :: r, h, c, s))
  | .l2i => xp_l st (fun x r => some (pc + 1, lv, .int x.toInt32 :: r, h, c, s))
  | .i2b => xp_i st (fun x r => some (pc + 1, lv, .int x.toInt8.toInt32 :: r, h, c, s))
  | .i2c => xp_i st (fun x r => some (pc + 1, lv, .int (x.toUInt32 % 65536).toInt32 :: r, h, c, s))
  | .dup => (match st with
    | a :: r => cond (Nat.beq a.category 1) (some (pc + 1, lv, a :: a :: r, h, c, s)) none
    | _ => none)
  | .pop => (match st with
    | a :: r => cond (Nat.beq a.category 1) (some (pc + 1, lv, r, h, c, s)) none
    | _ => none)
  | .pop2 => xp_l st (fun _ r => some (pc + 1, lv, r, h, c, s))
  | .dup2 => (match st with
    | a :: b :: r => cond (Nat.beq a.category 1 && Nat.beq b.category 1) (some (pc + 1, lv, a :: b :: a :: b :: r, h, c, s)) none
    | _ => none)
  | .dup_x2 => (match st with
    | a :: b :: d :: r => cond (Nat.beq a.category 1 && (Nat.beq b.category 1 && Nat.beq d.category 1)) (some (pc + 1, lv, a :: b :: d :: a :: r, h, c, s)) none
    | _ => none)
  | .ifCond k _ => xp_i st (fun x q => cond (xe_c k x 0) (some (r.2.2.1, lv, q, h, c, s)) (some (pc + 3, lv, q, h, c, s)))
  | .if_icmp k _ => xp_ii st (fun y x q => cond (xe_c k x y) (some (r.2.2.1, lv, q, h, c, s)) (some (pc + 3, lv, q, h, c, s)))
  | .goto _ => some (r.2.2.1, lv, st, h, c, s)
  | .ifnull _ => (match st with
    | .ref _ :: q => some (pc + 3, lv, q, h, c, s)
    | .null :: q => some (r.2.2.1, lv, q, h, c, s)
    | _ => none)
  | .if_acmp .ne _ => (match st with
    | .ref y :: .ref x :: q => cond (Nat.ble (x + 1) h.1.length && Nat.ble (y + 1) h.1.length) (cond (Nat.beq x y) (some (pc + 3, lv, q, h, c, s)) (some (r.2.2.1, lv, q, h, c, s))) none
    | _ => none)
  | .tableswitch dflt lo hi offs => xp_i st (fun x q => cond (decide (x.toInt < lo) || decide (hi < x.toInt))
      (cond (decide (0 ≤ (pc : Int) + dflt)) (some (((pc : Int) + dflt).toNat, lv, q, h, c, s)) none)
      (match offs[(x.toInt - lo).toNat]? with
        | some off => cond (decide (0 ≤ (pc : Int) + off)) (some (((pc : Int) + off).toNat, lv, q, h, c, s)) none
        | none => none))
  | .getfield _ => xp_r st (fun a q => match h.1[a]? with
    | some (0, ci) => cond (Nat.beq ci r.2.2.1) (some (pc + 3, lv, xh_get h a (xh_ty r.2.2.1 r.2.2.2.1) r.2.2.2.1 :: q, h, c, s)) none
    | _ => none)
  | .putfield _ => xp_vr st (fun v a q => match h.1[a]? with
    | some (0, ci) => cond (Nat.beq ci r.2.2.1) ((xe_put h a (xh_ty r.2.2.1 r.2.2.2.1) r.2.2.2.1 v).map (fun h' => (pc + 3, lv, q, h', c, s))) none
    | _ => none)
  | .iaload => xp_ir st (fun i a q => match h.1[a]? with
    | some (1, n) => cond (xe_in i n) (some (pc + 1, lv, .int (xg 0 h.2.1 a i.toNatClampNeg) :: q, h, c, s)) none
    | _ => none)
  | .baload => xp_ir st (fun i a q => match h.1[a]? with
    | some (2, n) => cond (xe_in i n) (some (pc + 1, lv, .int (xg 0 h.2.1 a i.toNatClampNeg) :: q, h, c, s)) none
    | some (3, n) => cond (xe_in i n) (some (pc + 1, lv, .int (xg 0 h.2.1 a i.toNatClampNeg) :: q, h, c, s)) none
    | _ => none)
  | .laload => xp_ir st (fun i a q => match h.1[a]? with
    | some (4, n) => cond (xe_in i n) (some (pc + 1, lv, .long (xg 0 h.2.2.1 a i.toNatClampNeg) :: q, h, c, s)) none
    | _ => none)
  | .aaload => xp_ir st (fun i a q => match h.1[a]? with
    | some (5, n) => cond (xe_in i n) (some (pc + 1, lv, va_rf (xg none h.2.2.2 a i.toNatClampNeg) :: q, h, c, s)) none
    | _ => none)
  | .iastore => xp_iir st (fun x i a q => match h.1[a]? with
    | some (1, n) => cond (xe_in i n) (some (pc + 1, lv, q, xh_ui h a i.toNatClampNeg x, c, s)) none
    | _ => none)
  | .bastore => xp_iir st (fun x i a q => match h.1[a]? with
    | some (2, n) => cond (xe_in i n) (some (pc + 1, lv, q, xh_ui h a i.toNatClampNeg (vp_nar .byte x), c, s)) none
    | some (3, n) => cond (xe_in i n) (some (pc + 1, lv, q, xh_ui h a i.toNatClampNeg (vp_nar .boolean x), c, s)) none
    | _ => none)
  | .lastore => xp_lir st (fun x i a q => match h.1[a]? with
    | some (4, n) => cond (xe_in i n) (some (pc + 1, lv, q, xh_ul h a i.toNatClampNeg x, c, s)) none
    | _ => none)
  | .aastore => xp_rir st (fun x i a q => match h.1[a]? with
    | some (5, n) => (match h.1[x]? with
      | some (0, 7) => cond (xe_in i n) (some (pc + 1, lv, q, xh_ur h a i.toNatClampNeg (some x), c, s)) none
      | _ => none)
    | _ => none)
  | .arraylength => xp_r st (fun a q => match h.1[a]? with
    | some (k + 1, n) => cond (Nat.ble (k + 1) 5) (some (pc + 1, lv, .int (Int32.ofNat n) :: q, h, c, s)) none
    | _ => none)
  | .newarray t => xp_i st (fun n q => cond (!decide (n < 0) && (Nat.ble (xa_k t) 5 && Nat.ble n.toNatClampNeg 1000000)) (some (pc + 2, lv, .ref h.1.length :: q, xh_nw h (xa_k t, n.toNatClampNeg), c + 1, s + n.toNatClampNeg)) none)
  | .anewarray _ => xp_i st (fun n q => cond (!decide (n < 0) && Nat.ble n.toNatClampNeg 1000000) (some (pc + 3, lv, .ref h.1.length :: q, xh_nw h (5, n.toNatClampNeg), c + 1, s + n.toNatClampNeg)) none)
  | .new _ => some (pc + 3, lv, .ref h.1.length :: st, xh_nw h (0, r.2.2.1), c + 1, s + xh_N r.2.2.1)
  | _ => none
end XE
