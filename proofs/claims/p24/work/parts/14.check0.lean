section XCK
def xm_b (mi : xm_M) (w2 w3 w4 : Nat × Nat) : Bool :=
  (xw_b w2.1 w2.2 (.initialized mi.2.1.cls) && (decide (mi.1 = mi.2.1.cls) && (_root_.Jvm.plainName mi.2.1.cls && (decide (mi.2.1.cls ≠ "java/lang/invoke/MethodHandle" ∧ mi.2.1.cls ≠ "java/lang/invoke/VarHandle" ∧ (parseMethodDescriptor mi.2.1.desc).map (fun d => d.parameters.length) = some mi.2.2.2.2.2.2.1) && (Nat.ble mi.2.2.2.1 20 && (match mi.2.2.2.2.2.1 with
    | 0 => xw_b w3.1 w3.2 (.instanceMethod mi.2.1) && (xw_b w4.1 w4.2 (.selects mi.2.1.cls mi.2.1 mi.2.1) && (match vwCl[mi.2.2.2.2.2.2.2]? with
      | some q => decide (q.1 = mi.2.1.cls)
      | none => false))
    | 1 => xw_b w3.1 w3.2 (.static mi.2.1)
    | 2 => xw_b w3.1 w3.2 (.instanceMethod mi.2.1) && (decide (mi.2.1.name = "<init>") && decide (mi.2.2.2.2.1 = none))
    | _ => false))))))
theorem xm_b_ok {mi : xm_M} {w2 w3 w4 : Nat × Nat} (h : xm_b mi w2 w3 w4 = true) (hw : Cond.code mi.2.1 mi.2.2.1 mi.2.2.2.1 mi.2.2.2.2.1 ∈ xG) : xm_ok mi := by
  unfold xm_b at h
  obtain ⟨a2, h⟩ := xw_bb h
  obtain ⟨a3, h⟩ := xw_bb h
  obtain ⟨a4, h⟩ := xw_bb h
  obtain ⟨a5, h⟩ := xw_bb h
  obtain ⟨a6, h⟩ := xw_bb h
  refine ⟨hw, xw_in a2, of_decide_eq_true a3, a4, of_decide_eq_true a5, xw_ble a6, fun z => ?_, fun z => ?_, fun z => ?_⟩
  · rw [z] at h
    try dsimp only at h
    obtain ⟨b1, h⟩ := xw_bb h
    obtain ⟨b2, h⟩ := xw_bb h
    refine ⟨xw_in b1, xw_in b2, ?_⟩
    cases hq : vwCl[mi.2.2.2.2.2.2.2]? with
    | none => rw [hq] at h; cases h
    | some q =>
      rw [hq] at h
      obtain ⟨C, T, N⟩ := q
      exact ⟨T, N, by rw [← of_decide_eq_true h]⟩
  · rw [z] at h
    exact xw_in h
  · rw [z] at h
    try dsimp only at h
    obtain ⟨b1, h⟩ := xw_bb h
    obtain ⟨b2, h⟩ := xw_bb h
    exact ⟨xw_in b1, of_decide_eq_true b2, of_decide_eq_true h⟩
theorem dz_bind {α β : Type} {r : Decoder α} {F : α → Decoder β} {c : ByteArray} {p q : Nat} {a : α} (h : r c p = .ok (a, q)) : (bind r F : Decoder β) c p = F a c q := by
  show (bind (r c p) fun (x : α × Nat) => F x.1 c x.2 : Except DecodeError (β × Nat)) = _
  rw [h]
  rfl
theorem dz_at {c : ByteArray} {pc : Nat} {b : UInt8} {t : List UInt8} (h : c.data.toList.drop pc = b :: t) : (Reader.u1 : Decoder Nat) c pc = .ok (b.toNat, pc + 1) ∧ c.data.toList.drop (pc + 1) = t := by
  have hg : c.data.toList[pc]? = some b := by
    have := congrArg (fun l : List UInt8 => l[0]?) h
    simpa using this
  obtain ⟨hlt, hb⟩ := List.getElem?_eq_some_iff.mp hg
  have hs : pc < c.size := hlt
  refine ⟨?_, ?_⟩
  · have e : (Reader.u1 : Decoder Nat) c pc = (if h : pc < c.size then (Except.ok (c[pc].toNat, pc + 1) : Except DecodeError (Nat × Nat)) else throw (HasTruncated.truncated pc)) := by
      unfold Reader.u1
      show (if h : pc < c.size then _ else _ : Decoder Nat) c pc = _
      rw [dif_pos hs, dif_pos hs]
      rfl
    rw [e, dif_pos hs]
    have : c[pc] = b := hb
    rw [this]
  · have := congrArg List.tail h
    rw [List.tail_drop] at this
    exact this

theorem dz_dec {c : ByteArray} {pc n : Nat} {i : Instr} (h : Decoder.instr pc c pc = .ok (i, pc + n)) : decode c pc = .ok (i, n) := by
  unfold decode
  show (bind (Decoder.instr pc c pc) fun (x : Instr × Nat) => pure (x.1, x.2 - pc) : Except DecodeError (Instr × Nat)) = _
  rw [h]
  show Except.ok (i, pc + n - pc) = _
  rw [Nat.add_sub_cancel_left]
def dz0 (o len : Nat) (l : List UInt8) : Bool := match l with
  | b :: _ => Nat.beq b.toNat o && Nat.beq len 1
  | _ => false
def dz1 (o k len : Nat) (l : List UInt8) : Bool := match l with
  | b :: x :: _ => Nat.beq b.toNat o && (Nat.beq x.toNat k && Nat.beq len 2)
  | _ => false
def dz2 (o k len : Nat) (l : List UInt8) : Bool := match l with
  | b :: x :: y :: _ => Nat.beq b.toNat o && (Nat.beq (x.toNat * 256 + y.toNat) k && Nat.beq len 3)
  | _ => false
def dzS1 (o : Nat) (v : Int) (len : Nat) (l : List UInt8) : Bool := match l with
  | b :: x :: _ => Nat.beq b.toNat o && (decide (Reader.signed 8 x.toNat = v) && Nat.beq len 2)
  | _ => false
def dzS2 (o : Nat) (v : Int) (len : Nat) (l : List UInt8) : Bool := match l with
  | b :: x :: y :: _ => Nat.beq b.toNat o && (decide (Reader.signed 16 (x.toNat * 256 + y.toNat) = v) && Nat.beq len 3)
  | _ => false
def dzI (o k : Nat) (v : Int) (len : Nat) (l : List UInt8) : Bool := match l with
  | b :: x :: y :: _ => Nat.beq b.toNat o && (Nat.beq x.toNat k && (decide (Reader.signed 8 y.toNat = v) && Nat.beq len 3))
  | _ => false
theorem dz_u2 {c : ByteArray} {p : Nat} {x y : UInt8} {t : List UInt8} (h : c.data.toList.drop p = x :: y :: t) : (Reader.u2 : Decoder Nat) c p = .ok (x.toNat * 256 + y.toNat, p + 2) := by
  obtain ⟨h1, h2⟩ := dz_at h
  obtain ⟨h3, -⟩ := dz_at h2
  refine Eq.trans (dz_bind h1) ?_
  refine Eq.trans (dz_bind h3) ?_
  rfl
theorem dz_map {α β : Type} {r : Decoder α} {F : α → β} {c : ByteArray} {p q : Nat} {a : α} (h : r c p = .ok (a, q)) : (F <$> r : Decoder β) c p = .ok (F a, q) := by
  show (bind (r c p) fun (x : α × Nat) => pure (F x.1, x.2) : Except DecodeError (β × Nat)) = _
  rw [h]
  rfl
theorem dz0_ok {o len : Nat} {i : Instr} {c : ByteArray} {pc : Nat} {l : List UInt8} (hF : (Reader.u1 : Decoder Nat) c pc = .ok (o, pc + 1) → Decoder.instr pc c pc = .ok (i, pc + 1)) (hl : c.data.toList.drop pc = l) (h : dz0 o len l = true) : decode c pc = .ok (i, len) := by
  match l, hl, h with
  | b :: t, hl, h =>
    obtain ⟨h1, h2⟩ := xw_bb h
    obtain ⟨g, -⟩ := dz_at hl
    rw [Nat.eq_of_beq_eq_true h1] at g
    rw [Nat.eq_of_beq_eq_true h2]
    exact dz_dec (hF g)
theorem dz1_ok {o k len : Nat} {i : Instr} {c : ByteArray} {pc : Nat} {l : List UInt8} (hF : (Reader.u1 : Decoder Nat) c pc = .ok (o, pc + 1) → (Reader.u1 : Decoder Nat) c (pc + 1) = .ok (k, pc + 1 + 1) → Decoder.instr pc c pc = .ok (i, pc + 2)) (hl : c.data.toList.drop pc = l) (h : dz1 o k len l = true) : decode c pc = .ok (i, len) := by
  match l, hl, h with
  | b :: x :: t, hl, h =>
    obtain ⟨h1, h⟩ := xw_bb h
    obtain ⟨h2, h3⟩ := xw_bb h
    obtain ⟨g, hl⟩ := dz_at hl
    obtain ⟨g2, -⟩ := dz_at hl
    rw [Nat.eq_of_beq_eq_true h1] at g
    rw [Nat.eq_of_beq_eq_true h2] at g2
    rw [Nat.eq_of_beq_eq_true h3]
    exact dz_dec (hF g g2)
theorem dz2_ok {o k len : Nat} {i : Instr} {c : ByteArray} {pc : Nat} {l : List UInt8} (hF : (Reader.u1 : Decoder Nat) c pc = .ok (o, pc + 1) → (Reader.u2 : Decoder Nat) c (pc + 1) = .ok (k, pc + 1 + 2) → Decoder.instr pc c pc = .ok (i, pc + 3)) (hl : c.data.toList.drop pc = l) (h : dz2 o k len l = true) : decode c pc = .ok (i, len) := by
  match l, hl, h with
  | b :: x :: y :: t, hl, h =>
    obtain ⟨h1, h⟩ := xw_bb h
    obtain ⟨h2, h3⟩ := xw_bb h
    obtain ⟨g, hl⟩ := dz_at hl
    have g2 := dz_u2 hl
    rw [Nat.eq_of_beq_eq_true h1] at g
    rw [Nat.eq_of_beq_eq_true h2] at g2
    rw [Nat.eq_of_beq_eq_true h3]
    exact dz_dec (hF g g2)
theorem dzS1_ok {o len : Nat} {v : Int} {i : Instr} {c : ByteArray} {pc : Nat} {l : List UInt8} (hF : (Reader.u1 : Decoder Nat) c pc = .ok (o, pc + 1) → (Reader.s1 : Decoder Int) c (pc + 1) = .ok (v, pc + 1 + 1) → Decoder.instr pc c pc = .ok (i, pc + 2)) (hl : c.data.toList.drop pc = l) (h : dzS1 o v len l = true) : decode c pc = .ok (i, len) := by
  match l, hl, h with
  | b :: x :: t, hl, h =>
    obtain ⟨h1, h⟩ := xw_bb h
    obtain ⟨h2, h3⟩ := xw_bb h
    obtain ⟨g, hl⟩ := dz_at hl
    have g2 : (Reader.s1 : Decoder Int) c (pc + 1) = _ := dz_map (F := Reader.signed 8) (dz_at hl).1
    rw [Nat.eq_of_beq_eq_true h1] at g
    rw [of_decide_eq_true h2] at g2
    rw [Nat.eq_of_beq_eq_true h3]
    exact dz_dec (hF g g2)
theorem dzS2_ok {o len : Nat} {v : Int} {i : Instr} {c : ByteArray} {pc : Nat} {l : List UInt8} (hF : (Reader.u1 : Decoder Nat) c pc = .ok (o, pc + 1) → (Reader.s2 : Decoder Int) c (pc + 1) = .ok (v, pc + 1 + 2) → Decoder.instr pc c pc = .ok (i, pc + 3)) (hl : c.data.toList.drop pc = l) (h : dzS2 o v len l = true) : decode c pc = .ok (i, len) := by
  match l, hl, h with
  | b :: x :: y :: t, hl, h =>
    obtain ⟨h1, h⟩ := xw_bb h
    obtain ⟨h2, h3⟩ := xw_bb h
    obtain ⟨g, hl⟩ := dz_at hl
    have g2 : (Reader.s2 : Decoder Int) c (pc + 1) = _ := dz_map (F := Reader.signed 16) (dz_u2 hl)
    rw [Nat.eq_of_beq_eq_true h1] at g
    rw [of_decide_eq_true h2] at g2
    rw [Nat.eq_of_beq_eq_true h3]
    exact dz_dec (hF g g2)
theorem dzI_ok {o k len : Nat} {v : Int} {i : Instr} {c : ByteArray} {pc : Nat} {l : List UInt8} (hF : (Reader.u1 : Decoder Nat) c pc = .ok (o, pc + 1) → (Reader.u1 : Decoder Nat) c (pc + 1) = .ok (k, pc + 1 + 1) → (Reader.s1 : Decoder Int) c (pc + 1 + 1) = .ok (v, pc + 1 + 1 + 1) → Decoder.instr pc c pc = .ok (i, pc + 3)) (hl : c.data.toList.drop pc = l) (h : dzI o k v len l = true) : decode c pc = .ok (i, len) := by
  match l, hl, h with
  | b :: x :: y :: t, hl, h =>
    obtain ⟨h1, h⟩ := xw_bb h
    obtain ⟨h2, h⟩ := xw_bb h
    obtain ⟨h3, h4⟩ := xw_bb h
    obtain ⟨g, hl⟩ := dz_at hl
    obtain ⟨g2, hl⟩ := dz_at hl
    have g3 : (Reader.s1 : Decoder Int) c (pc + 1 + 1) = _ := dz_map (F := Reader.signed 8) (dz_at hl).1
    rw [Nat.eq_of_beq_eq_true h1] at g
    rw [Nat.eq_of_beq_eq_true h2] at g2
    rw [of_decide_eq_true h3] at g3
    rw [Nat.eq_of_beq_eq_true h4]
    exact dz_dec (hF g g2 g3)
/-- an instruction against the bytes that stand there -/
def dq (i : Instr) (len : Nat) (l : List UInt8) : Bool := match i with
  | .iaload => dz0 46 len l
  | .baload => dz0 51 len l
  | .laload => dz0 47 len l
  | .iastore => dz0 79 len l
  | .bastore => dz0 84 len l
  | .pop => dz0 87 len l
  | .dup => dz0 89 len l
  | .dup2 => dz0 92 len l
  | .iadd => dz0 96 len l
  | .ladd => dz0 97 len l
  | .isub => dz0 100 len l
  | .lsub => dz0 101 len l
  | .imul => dz0 104 len l
  | .lmul => dz0 105 len l
  | .ldiv => dz0 109 len l
  | .ishl => dz0 120 len l
  | .ishr => dz0 122 len l
  | .iushr => dz0 124 len l
  | .iand => dz0 126 len l
  | .ior => dz0 128 len l
  | .ixor => dz0 130 len l
  | .i2l => dz0 133 len l
  | .lcmp => dz0 148 len l
  | .ireturn => dz0 172 len l
  | .lreturn => dz0 173 len l
  | .return_ => dz0 177 len l
  | .arraylength => dz0 190 len l
  | .iload_n n => dz0 (26 + n.val) len l
  | .lload_n n => dz0 (30 + n.val) len l
  | .aload_n n => dz0 (42 + n.val) len l
  | .istore_n n => dz0 (59 + n.val) len l
  | .lstore_n n => dz0 (63 + n.val) len l
  | .astore_n n => dz0 (75 + n.val) len l
  | .lconst n => dz0 (9 + n.val) len l
  | .iconst v => (match v with
    | .ofNat n => Nat.ble n 5 && dz0 (3 + n) len l
    | .negSucc n => Nat.beq n 0 && dz0 2 len l)
  | .iload k => dz1 21 k len l
  | .lload k => dz1 22 k len l
  | .aload k => dz1 25 k len l
  | .istore k => dz1 54 k len l
  | .lstore k => dz1 55 k len l
  | .astore k => dz1 58 k len l
  | .ldc k => dz1 18 k len l
  | .ldc_w k => dz2 19 k len l
  | .ldc2_w k => dz2 20 k len l
  | .getstatic k => dz2 178 k len l
  | .getfield k => dz2 180 k len l
  | .putfield k => dz2 181 k len l
  | .invokevirtual k => dz2 182 k len l
  | .invokespecial k => dz2 183 k len l
  | .invokestatic k => dz2 184 k len l
  | .new k => dz2 187 k len l
  | .bipush v => dzS1 16 v len l
  | .sipush v => dzS2 17 v len l
  | .goto v => dzS2 167 v len l
  | .ifCond e v => (match e with
    | .eq => dzS2 153 v len l
    | .ne => dzS2 154 v len l
    | .lt => dzS2 155 v len l
    | .ge => dzS2 156 v len l
    | .gt => dzS2 157 v len l
    | .le => dzS2 158 v len l)
  | .if_icmp e v => (match e with
    | .eq => dzS2 159 v len l
    | .ne => dzS2 160 v len l
    | .lt => dzS2 161 v len l
    | .ge => dzS2 162 v len l
    | .gt => dzS2 163 v len l
    | .le => dzS2 164 v len l)
  | .iinc k v => dzI 132 k v len l
  | _ => false
set_option maxRecDepth 20000 in
set_option maxHeartbeats 4000000 in
theorem dq_ok {i : Instr} {len : Nat} {c : ByteArray} {pc : Nat} {l : List UInt8} (hl : c.data.toList.drop pc = l) (h : dq i len l = true) : decode c pc = .ok (i, len) := by
  unfold dq at h
  split at h
  · exact dz0_ok (fun g => dz_bind g) hl h
  · exact dz0_ok (fun g => dz_bind g) hl h
  · exact dz0_ok (fun g => dz_bind g) hl h
  · exact dz0_ok (fun g => dz_bind g) hl h
  · exact dz0_ok (fun g => dz_bind g) hl h
  · exact dz0_ok (fun g => dz_bind g) hl h
  · exact dz0_ok (fun g => dz_bind g) hl h
  · exact dz0_ok (fun g => dz_bind g) hl h
  · exact dz0_ok (fun g => dz_bind g) hl h
  · exact dz0_ok (fun g => dz_bind g) hl h
  · exact dz0_ok (fun g => dz_bind g) hl h
  · exact dz0_ok (fun g => dz_bind g) hl h
  · exact dz0_ok (fun g => dz_bind g) hl h
  · exact dz0_ok (fun g => dz_bind g) hl h
  · exact dz0_ok (fun g => dz_bind g) hl h
  · exact dz0_ok (fun g => dz_bind g) hl h
  · exact dz0_ok (fun g => dz_bind g) hl h
  · exact dz0_ok (fun g => dz_bind g) hl h
  · exact dz0_ok (fun g => dz_bind g) hl h
  · exact dz0_ok (fun g => dz_bind g) hl h
  · exact dz0_ok (fun g => dz_bind g) hl h
  · exact dz0_ok (fun g => dz_bind g) hl h
  · exact dz0_ok (fun g => dz_bind g) hl h
  · exact dz0_ok (fun g => dz_bind g) hl h
  · exact dz0_ok (fun g => dz_bind g) hl h
  · exact dz0_ok (fun g => dz_bind g) hl h
  · exact dz0_ok (fun g => dz_bind g) hl h
  · rename_i n
    match n, h with
    | ⟨0, _⟩, h => exact dz0_ok (o := 26) (fun g => dz_bind g) hl h
    | ⟨1, _⟩, h => exact dz0_ok (o := 27) (fun g => dz_bind g) hl h
    | ⟨2, _⟩, h => exact dz0_ok (o := 28) (fun g => dz_bind g) hl h
    | ⟨3, _⟩, h => exact dz0_ok (o := 29) (fun g => dz_bind g) hl h
  · rename_i n
    match n, h with
    | ⟨0, _⟩, h => exact dz0_ok (o := 30) (fun g => dz_bind g) hl h
    | ⟨1, _⟩, h => exact dz0_ok (o := 31) (fun g => dz_bind g) hl h
    | ⟨2, _⟩, h => exact dz0_ok (o := 32) (fun g => dz_bind g) hl h
    | ⟨3, _⟩, h => exact dz0_ok (o := 33) (fun g => dz_bind g) hl h
  · rename_i n
    match n, h with
    | ⟨0, _⟩, h => exact dz0_ok (o := 42) (fun g => dz_bind g) hl h
    | ⟨1, _⟩, h => exact dz0_ok (o := 43) (fun g => dz_bind g) hl h
    | ⟨2, _⟩, h => exact dz0_ok (o := 44) (fun g => dz_bind g) hl h
    | ⟨3, _⟩, h => exact dz0_ok (o := 45) (fun g => dz_bind g) hl h
  · rename_i n
    match n, h with
    | ⟨0, _⟩, h => exact dz0_ok (o := 59) (fun g => dz_bind g) hl h
    | ⟨1, _⟩, h => exact dz0_ok (o := 60) (fun g => dz_bind g) hl h
    | ⟨2, _⟩, h => exact dz0_ok (o := 61) (fun g => dz_bind g) hl h
    | ⟨3, _⟩, h => exact dz0_ok (o := 62) (fun g => dz_bind g) hl h
  · rename_i n
    match n, h with
    | ⟨0, _⟩, h => exact dz0_ok (o := 63) (fun g => dz_bind g) hl h
    | ⟨1, _⟩, h => exact dz0_ok (o := 64) (fun g => dz_bind g) hl h
    | ⟨2, _⟩, h => exact dz0_ok (o := 65) (fun g => dz_bind g) hl h
    | ⟨3, _⟩, h => exact dz0_ok (o := 66) (fun g => dz_bind g) hl h
  · rename_i n
    match n, h with
    | ⟨0, _⟩, h => exact dz0_ok (o := 75) (fun g => dz_bind g) hl h
    | ⟨1, _⟩, h => exact dz0_ok (o := 76) (fun g => dz_bind g) hl h
    | ⟨2, _⟩, h => exact dz0_ok (o := 77) (fun g => dz_bind g) hl h
    | ⟨3, _⟩, h => exact dz0_ok (o := 78) (fun g => dz_bind g) hl h
  · rename_i n
    match n, h with
    | ⟨0, _⟩, h => exact dz0_ok (o := 9) (fun g => dz_bind g) hl h
    | ⟨1, _⟩, h => exact dz0_ok (o := 10) (fun g => dz_bind g) hl h
  · rename_i v
    match v, h with
    | .ofNat n, h =>
      obtain ⟨h1, h⟩ := xw_bb h
      have h1 := Nat.le_of_ble_eq_true h1
      match n, h1, h with
      | 0, _, h => exact dz0_ok (o := 3) (fun g => dz_bind g) hl h
      | 1, _, h => exact dz0_ok (o := 4) (fun g => dz_bind g) hl h
      | 2, _, h => exact dz0_ok (o := 5) (fun g => dz_bind g) hl h
      | 3, _, h => exact dz0_ok (o := 6) (fun g => dz_bind g) hl h
      | 4, _, h => exact dz0_ok (o := 7) (fun g => dz_bind g) hl h
      | 5, _, h => exact dz0_ok (o := 8) (fun g => dz_bind g) hl h
    | .negSucc n, h =>
      obtain ⟨h1, h⟩ := xw_bb h
      have h1 := Nat.eq_of_beq_eq_true h1
      subst h1
      exact dz0_ok (o := 2) (fun g => dz_bind g) hl h
  · exact dz1_ok (fun g g2 => (dz_bind g).trans (dz_bind g2)) hl h
  · exact dz1_ok (fun g g2 => (dz_bind g).trans (dz_bind g2)) hl h
  · exact dz1_ok (fun g g2 => (dz_bind g).trans (dz_bind g2)) hl h
  · exact dz1_ok (fun g g2 => (dz_bind g).trans (dz_bind g2)) hl h
  · exact dz1_ok (fun g g2 => (dz_bind g).trans (dz_bind g2)) hl h
  · exact dz1_ok (fun g g2 => (dz_bind g).trans (dz_bind g2)) hl h
  · exact dz1_ok (fun g g2 => (dz_bind g).trans (dz_bind g2)) hl h
  · exact dz2_ok (fun g g2 => (dz_bind g).trans (dz_bind g2)) hl h
  · exact dz2_ok (fun g g2 => (dz_bind g).trans (dz_bind g2)) hl h
  · exact dz2_ok (fun g g2 => (dz_bind g).trans (dz_bind g2)) hl h
  · exact dz2_ok (fun g g2 => (dz_bind g).trans (dz_bind g2)) hl h
  · exact dz2_ok (fun g g2 => (dz_bind g).trans (dz_bind g2)) hl h
  · exact dz2_ok (fun g g2 => (dz_bind g).trans (dz_bind g2)) hl h
  · exact dz2_ok (fun g g2 => (dz_bind g).trans (dz_bind g2)) hl h
  · exact dz2_ok (fun g g2 => (dz_bind g).trans (dz_bind g2)) hl h
  · exact dz2_ok (fun g g2 => (dz_bind g).trans (dz_bind g2)) hl h
  · exact dzS1_ok (fun g g2 => (dz_bind g).trans (dz_bind g2)) hl h
  · exact dzS2_ok (fun g g2 => (dz_bind g).trans (dz_bind g2)) hl h
  · exact dzS2_ok (fun g g2 => (dz_bind g).trans (dz_bind g2)) hl h
  · rename_i e v
    cases e
    · exact dzS2_ok (o := 153) (fun g g2 => (dz_bind g).trans (dz_bind g2)) hl h
    · exact dzS2_ok (o := 154) (fun g g2 => (dz_bind g).trans (dz_bind g2)) hl h
    · exact dzS2_ok (o := 155) (fun g g2 => (dz_bind g).trans (dz_bind g2)) hl h
    · exact dzS2_ok (o := 156) (fun g g2 => (dz_bind g).trans (dz_bind g2)) hl h
    · exact dzS2_ok (o := 157) (fun g g2 => (dz_bind g).trans (dz_bind g2)) hl h
    · exact dzS2_ok (o := 158) (fun g g2 => (dz_bind g).trans (dz_bind g2)) hl h
  · rename_i e v
    cases e
    · exact dzS2_ok (o := 159) (fun g g2 => (dz_bind g).trans (dz_bind g2)) hl h
    · exact dzS2_ok (o := 160) (fun g g2 => (dz_bind g).trans (dz_bind g2)) hl h
    · exact dzS2_ok (o := 161) (fun g g2 => (dz_bind g).trans (dz_bind g2)) hl h
    · exact dzS2_ok (o := 162) (fun g g2 => (dz_bind g).trans (dz_bind g2)) hl h
    · exact dzS2_ok (o := 163) (fun g g2 => (dz_bind g).trans (dz_bind g2)) hl h
    · exact dzS2_ok (o := 164) (fun g g2 => (dz_bind g).trans (dz_bind g2)) hl h
  · exact dzI_ok (fun g g2 g3 => (dz_bind g).trans ((dz_bind g2).trans (dz_bind g3))) hl h
  · cases h
def xk_r (mi : xm_M) (pc : Nat) (w : List UInt8) (r : xr_R) : Bool := cond (dq r.1 r.2.1 w) true (decide (decode mi.2.2.1 pc = .ok (r.1, r.2.1))) && (((match r.1 with
  | .tableswitch _ _ _ _ => true
  | i => Nat.beq r.2.1 (xr_len i)) && xr_w mi.1 (xm_ini mi) pc r) && xr_c xM mi.1 r)
def xk_b (mi : xm_M) (cd : List (List (Option xr_R))) (n : Nat) : Nat → List UInt8 → Bool := match n with
  | 0 => fun _ _ => true
  | n + 1 => fun pc w => (match xcl cd pc with
    | some r => xk_r mi pc w r
    | none => true) && xk_b mi cd n (Nat.add pc 1) w.tail
def xc_b (mi : xm_M) (cd : List (List (Option xr_R))) (lo n : Nat) : Bool := xk_b mi cd n lo (mi.2.2.1.data.toList.drop lo)
theorem xk_r_ok {mi : xm_M} {pc : Nat} {w : List UInt8} {r : xr_R} (hw : mi.2.2.1.data.toList.drop pc = w) (h : xk_r mi pc w r = true) : xr_b mi.1 (xm_ini mi) mi.2.2.1 pc r = true ∧ xr_c xM mi.1 r = true := by
  obtain ⟨h1, h⟩ := xw_bb h
  obtain ⟨h2, h3⟩ := xw_bb h
  refine ⟨?_, h3⟩
  have hd : decode mi.2.2.1 pc = .ok (r.1, r.2.1) := by
    cases hq : dq r.1 r.2.1 w with
    | true => exact dq_ok hw hq
    | false => rw [hq] at h1; exact of_decide_eq_true h1
  unfold xr_b
  rw [decide_eq_true hd, Bool.true_and]
  exact h2
theorem xk_b_ok {mi : xm_M} {cd : List (List (Option xr_R))} : ∀ (n pc : Nat) (w : List UInt8), mi.2.2.1.data.toList.drop pc = w → xk_b mi cd n pc w = true → ∀ j, j < n → ∀ r, xcl cd (pc + j) = some r → xr_b mi.1 (xm_ini mi) mi.2.2.1 (pc + j) r = true ∧ xr_c xM mi.1 r = true := by
  intro n
  induction n with
  | zero => intro pc w _ _ j hj; exact absurd hj (Nat.not_lt_zero j)
  | succ n ih =>
    intro pc w hw h j hj r hr
    unfold xk_b at h
    obtain ⟨h1, h2⟩ := xw_bb h
    cases j with
    | zero =>
      rw [Nat.add_zero] at hr ⊢
      rw [hr] at h1
      exact xk_r_ok hw h1
    | succ j =>
      have e : pc + (j + 1) = pc + 1 + j := by omega
      rw [e] at hr ⊢
      exact ih (pc + 1) w.tail (by rw [← hw, List.tail_drop]) h2 j (by omega) r hr
def xc_up (mi : xm_M) (cd : List (List (Option xr_R))) (N : Nat) : Prop := ∀ (pc : Nat) (r : xr_R), pc < N → xcl cd pc = some r → xr_b mi.1 (xm_ini mi) mi.2.2.1 pc r = true ∧ xr_c xM mi.1 r = true
theorem xc_up_0 {mi : xm_M} {cd : List (List (Option xr_R))} : xc_up mi cd 0 := fun pc r h => absurd h (Nat.not_lt_zero pc)
theorem xc_up_s {mi : xm_M} {cd : List (List (Option xr_R))} {lo n : Nat} (h : xc_up mi cd lo) (hb : xc_b mi cd lo n = true) : xc_up mi cd (lo + n) := by
  intro pc r hp hr
  by_cases hl : pc < lo
  · exact h pc r hl hr
  · have h1 := xk_b_ok n lo _ rfl hb (pc - lo) (by omega)
    rw [show lo + (pc - lo) = pc by omega] at h1
    exact h1 r hr
theorem xc_up_e {mi : xm_M} {cd : List (List (Option xr_R))} {N : Nat} (h : xc_up mi cd N) (hN : cd.length * 16 ≤ N) : ∀ (pc : Nat) (r : xr_R), xcl cd pc = some r → xr_b mi.1 (xm_ini mi) mi.2.2.1 pc r = true ∧ xr_c xM mi.1 r = true := by
  intro pc r hr
  by_cases hp : pc < N
  · exact h pc r hp hr
  · have hq : cd.length ≤ pc / 16 := by omega
    unfold xcl at hr
    have : cd.getD (pc / 16) [] = [] := by rw [List.getD_eq_getElem?_getD, List.getElem?_eq_none hq]; rfl
    rw [this] at hr
    cases hr
theorem xw_in2 {K i : Nat} {w : Cond} (h : (xtb K)[i]? = some w) (hg : goodWord w = true) : w ∈ xG := List.mem_filter.mpr ⟨xtb_in (List.mem_of_getElem? h), hg⟩
end XCK
