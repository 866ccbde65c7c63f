/-! what a table of the code says, held against the bytes -/
/-- the links of one class, by the index of its constants: fields read (kind * 64 + place), methods (100000: Object's constructor, 100001: arraycopy), kinds made, ints, longs, fields written, final ones written in its constructors, kinds of arrays made, int[][] made -/
abbrev xK : Type := List (Nat × Nat) × List (Nat × Nat) × List (Nat × Nat) × List (Nat × Int) × List (Nat × Int) × List (Nat × Nat) × List (Nat × Nat) × List (Nat × Nat) × List Nat
def xsim (i : Instr) : Bool := match i with
  | .aconst_null => true
  | .iadd => true
  | .isub => true
  | .imul => true
  | .idiv => true
  | .irem => true
  | .ineg => true
  | .iand => true
  | .ior => true
  | .ixor => true
  | .ishl => true
  | .ishr => true
  | .iushr => true
  | .ladd => true
  | .lsub => true
  | .lmul => true
  | .ldiv => true
  | .lrem => true
  | .land => true
  | .lor => true
  | .lshl => true
  | .lcmp => true
  | .i2l => true
  | .l2i => true
  | .i2b => true
  | .dup => true
  | .dup2 => true
  | .pop => true
  | .arraylength => true
  | .iaload => true
  | .baload => true
  | .laload => true
  | .aaload => true
  | .iastore => true
  | .bastore => true
  | .lastore => true
  | .aastore => true
  | .ireturn => true
  | .lreturn => true
  | .areturn => true
  | .return_ => true
  | _ => false
def xtI (ty : FieldType) : Bool := match ty with
  | .int => true
  | .boolean => true
  | _ => false
def xtJ (ty : FieldType) : Bool := match ty with
  | .long => true
  | _ => false
def xtR (ty : FieldType) : Bool := match ty with
  | .object _ => true
  | .array _ => true
  | _ => false
/-- a jump: from pc by off to the block t -/
def xjm (bp : Nat → Nat) (nb pc : Nat) (t off : Int) : Bool := decide (t.toNat < nb) && decide ((pc : Int) + off = (bp t.toNat : Int))
def xjs (bp : Nat → Nat) (nb pc : Nat) : List (Int × Int) → List (Int × Int) → Bool
  | [], [] => true
  | a :: as, b :: bs => decide (a.1 = b.1) && xjm bp nb pc a.2 b.2 && xjs bp nb pc as bs
  | _, _ => false
/-- the method's own: class number's fields' types, links, blocks' places, how many, locals, kinds of methods, is it a constructor -/
abbrev xO : Type := (Nat → Nat → FieldType) × xK × (Nat → Nat) × Nat × Nat × (Nat → Nat) × Bool
def xrb (O : xO) (pc : Nat) (r : Instr) (len : Nat) (i : Instr) : Bool := match i with
  | .nop => true
  | .iconst v => match r with
    | .iconst n => decide (n = v) && decide (len = 1)
    | .bipush n => decide ((Int8.ofInt n).toInt32 = Int32.ofInt v) && decide (len = 2)
    | .sipush n => decide ((Int16.ofInt n).toInt32 = Int32.ofInt v) && decide (len = 3)
    | .ldc x => decide ((x, v) ∈ O.2.1.2.2.2.1) && decide (len = 2)
    | .ldc_w x => decide ((x, v) ∈ O.2.1.2.2.2.1) && decide (len = 3)
    | _ => false
  | .sipush v => match r with
    | .lconst n => decide (Int64.ofNat (n : Nat) = Int64.ofInt v) && decide (len = 1)
    | .ldc2_w x => decide ((x, v) ∈ O.2.1.2.2.2.2.1) && decide (len = 3)
    | _ => false
  | .iload a => match r with
    | .iload x => decide (x = a) && decide (len = 2)
    | .iload_n n => decide ((n : Nat) = a) && decide (len = 1)
    | _ => false
  | .lload a => match r with
    | .lload x => decide (x = a) && decide (len = 2)
    | .lload_n n => decide ((n : Nat) = a) && decide (len = 1)
    | _ => false
  | .aload a => match r with
    | .aload x => decide (x = a) && decide (len = 2)
    | .aload_n n => decide ((n : Nat) = a) && decide (len = 1)
    | _ => false
  | .istore a => decide (a < O.2.2.2.2.1) && match r with
    | .istore x => decide (x = a) && decide (len = 2)
    | .istore_n n => decide ((n : Nat) = a) && decide (len = 1)
    | _ => false
  | .lstore a => decide (a + 1 < O.2.2.2.2.1) && match r with
    | .lstore x => decide (x = a) && decide (len = 2)
    | .lstore_n n => decide ((n : Nat) = a) && decide (len = 1)
    | _ => false
  | .astore a => decide (a < O.2.2.2.2.1) && match r with
    | .astore x => decide (x = a) && decide (len = 2)
    | .astore_n n => decide ((n : Nat) = a) && decide (len = 1)
    | _ => false
  | .iinc a c => decide (a < O.2.2.2.2.1) && decide (r = .iinc a c) && decide (len = 3)
  | .ifCond c t => match r with
    | .ifCond c2 off => decide (c2 = c) && decide (len = 3) && xjm O.2.2.1 O.2.2.2.1 pc t off
    | _ => false
  | .if_icmp c t => match r with
    | .if_icmp c2 off => decide (c2 = c) && decide (len = 3) && xjm O.2.2.1 O.2.2.2.1 pc t off
    | _ => false
  | .ifnull t => match r with
    | .ifnull off => decide (len = 3) && xjm O.2.2.1 O.2.2.2.1 pc t off
    | _ => false
  | .ifnonnull t => match r with
    | .ifnonnull off => decide (len = 3) && xjm O.2.2.1 O.2.2.2.1 pc t off
    | _ => false
  | .goto t => match r with
    | .goto off => decide (len = 3) && xjm O.2.2.1 O.2.2.2.1 pc t off
    | _ => false
  | .tableswitch d lo hi o => match r with
    | .tableswitch d2 lo2 hi2 o2 => decide (lo2 = lo) && decide (hi2 = hi) && xjm O.2.2.1 O.2.2.2.1 pc d d2 && decide (o.size = o2.size) && decide ((hi - lo).toNat < o.size) && (List.range o.size).all (fun j => xjm O.2.2.1 O.2.2.2.1 pc (o.getD j 0) (o2.getD j 0))
    | _ => false
  | .lookupswitch d o => match r with
    | .lookupswitch d2 o2 => xjm O.2.2.1 O.2.2.2.1 pc d d2 && xjs O.2.2.1 O.2.2.2.1 pc o.toList o2.toList && decide ((o2.toList.zip (o2.toList.drop 1)).all (fun (a, next) => a.1 < next.1) = true)
    | _ => false
  | .getfield c => match r with
    | .getfield x => decide ((x, c) ∈ O.2.1.1) && decide (len = 3) && xtI (O.1 (c / 64) (c % 64))
    | _ => false
  | .dload c => match r with
    | .getfield x => decide ((x, c) ∈ O.2.1.1) && decide (len = 3) && xtJ (O.1 (c / 64) (c % 64))
    | _ => false
  | .fload c => match r with
    | .getfield x => decide ((x, c) ∈ O.2.1.1) && decide (len = 3) && xtR (O.1 (c / 64) (c % 64))
    | _ => false
  | .putfield c => match r with
    | .putfield x => (decide ((x, c) ∈ O.2.1.2.2.2.2.2.1) || (O.2.2.2.2.2.2 && decide ((x, c) ∈ O.2.1.2.2.2.2.2.2.1))) && decide (len = 3) && xtI (O.1 (c / 64) (c % 64))
    | _ => false
  | .dstore c => match r with
    | .putfield x => (decide ((x, c) ∈ O.2.1.2.2.2.2.2.1) || (O.2.2.2.2.2.2 && decide ((x, c) ∈ O.2.1.2.2.2.2.2.2.1))) && decide (len = 3) && xtJ (O.1 (c / 64) (c % 64))
    | _ => false
  | .fstore c => match r with
    | .putfield x => (decide ((x, c) ∈ O.2.1.2.2.2.2.2.1) || (O.2.2.2.2.2.2 && decide ((x, c) ∈ O.2.1.2.2.2.2.2.2.1))) && decide (len = 3) && xtR (O.1 (c / 64) (c % 64))
    | _ => false
  | .invokevirtual m => match r with
    | .invokevirtual x => decide ((x, m) ∈ O.2.1.2.1) && decide (len = 3) && decide (O.2.2.2.2.2.1 m = 0) && decide (m < 100000)
    | _ => false
  | .invokespecial m => match r with
    | .invokespecial x => decide ((x, m) ∈ O.2.1.2.1) && decide (len = 3) && decide (O.2.2.2.2.2.1 m = 1) && decide (m < 100000)
    | _ => false
  | .invokestatic m => match r with
    | .invokestatic x => decide ((x, m) ∈ O.2.1.2.1) && decide (len = 3) && decide (O.2.2.2.2.2.1 m = 2) && decide (m < 100000)
    | _ => false
  | .ldc u => match r with
    | .ldc x => decide ((x, 100010 + u) ∈ O.2.1.2.1) && decide (len = 2)
    | _ => false
  | .f2i => match r with
    | .invokevirtual x => decide ((x, 100002) ∈ O.2.1.2.1) && decide (len = 3)
    | _ => false
  | .faload => match r with
    | .invokevirtual x => decide ((x, 100003) ∈ O.2.1.2.1) && decide (len = 3)
    | _ => false
  | .monitorenter => match r with
    | .invokespecial x => decide ((x, 100000) ∈ O.2.1.2.1) && decide (len = 3)
    | _ => false
  | .caload => match r with
    | .invokestatic x => decide ((x, 100001) ∈ O.2.1.2.1) && decide (len = 3)
    | _ => false
  | .new c => match r with
    | .new x => decide ((x, c) ∈ O.2.1.2.2.1) && decide (len = 3)
    | _ => false
  | .newarray t => decide (r = .newarray t) && decide (len = 2) && decide (t = .int ∨ t = .byte ∨ t = .long ∨ t = .boolean)
  | .anewarray c => match r with
    | .anewarray x => decide ((x, c) ∈ O.2.1.2.2.2.2.2.2.2.1) && decide (len = 3)
    | _ => false
  | .multianewarray _ _ => match r with
    | .multianewarray x k => decide (k = 2) && decide (x ∈ O.2.1.2.2.2.2.2.2.2.2) && decide (len = 4)
    | _ => false
  | i => xsim i && decide (r = i) && decide (len = 1)
/-- a run of instructions from pc on -/
def xbk (O : xO) (bytes : ByteArray) : Nat → List Instr → Bool
  | _, [] => true
  | pc, i :: is => match i with
    | .jsr t => decide (t.toNat < O.2.2.2.1) && decide (O.2.2.1 t.toNat = pc)
    | i => match decode bytes pc with
      | .ok (r, len) => xrb O pc r len i && xbk O bytes (pc + len) is
      | _ => false
def xyLen : MethodName := ⟨"java/lang/String", "length", "()I"⟩
def xyChr : MethodName := ⟨"java/lang/String", "charAt", "(I)C"⟩
/-- what the words say of the links -/
def xOKl (T : List Cond) (E : xE) (s0 : State) (Y : Nat → MethodName) (own : String) (NM : Nat) (K : xK) : Prop :=
  (∀ e ∈ K.1, ∃ (C : String) (Tt : u_T) (N : Nat), E.2.2.1[e.2 / 64]? = some (C, Tt, N) ∧ e.2 % 64 < N ∧ Cond.fieldLink own e.1 C (Tt (e.2 % 64)).2.1 (Tt (e.2 % 64)).2.2.1 ∈ T) ∧
  (∀ e ∈ K.2.1, (e.2 = 100000 ∧ Cond.methodLink own e.1 Lib.objectInit ∈ T) ∨ (e.2 = 100001 ∧ Cond.methodLink own e.1 arraycopyName ∈ T) ∨ (e.2 < NM ∧ Cond.methodLink own e.1 (Y e.2) ∈ T) ∨ (e.2 = 100002 ∧ Cond.methodLink own e.1 xyLen ∈ T) ∨ (e.2 = 100003 ∧ Cond.methodLink own e.1 xyChr ∈ T) ∨ (100010 ≤ e.2 ∧ ∃ tx, (own, e.1, tx, UInt32.ofNat (e.2 - 100010)) ∈ xlit)) ∧
  (∀ e ∈ K.2.2.1, ∃ (C : String) (Tt : u_T) (N : Nat), E.2.2.1[e.2]? = some (C, Tt, N) ∧ Cond.classLink own e.1 C ∈ T) ∧
  (∀ e ∈ K.2.2.2.1, Cond.constant own e.1 (Int32.ofInt e.2) ∈ T) ∧
  (∀ e ∈ K.2.2.2.2.1, Cond.constantLong own e.1 (Int64.ofInt e.2) ∈ T) ∧
  (∀ e ∈ K.2.2.2.2.2.1, ∃ (C : String) (Tt : u_T) (N : Nat), E.2.2.1[e.2 / 64]? = some (C, Tt, N) ∧ e.2 % 64 < N ∧ Cond.fieldLink own e.1 C (Tt (e.2 % 64)).2.1 (Tt (e.2 % 64)).2.2.1 ∈ T ∧ (Tt (e.2 % 64)).2.2.2 = false) ∧
  (∀ e ∈ K.2.2.2.2.2.2.1, ∃ (Tt : u_T) (N : Nat), E.2.2.1[e.2 / 64]? = some (own, Tt, N) ∧ e.2 % 64 < N ∧ Cond.fieldLink own e.1 own (Tt (e.2 % 64)).2.1 (Tt (e.2 % 64)).2.2.1 ∈ T ∧ (Tt (e.2 % 64)).2.2.2 = true) ∧
  (∀ e ∈ K.2.2.2.2.2.2.2.1, ∃ (C : String) (Tt : u_T) (N : Nat), E.2.2.1[e.2]? = some (C, Tt, N) ∧ Cond.classLink own e.1 C ∈ T ∧ FieldType.object C ∈ E.2.2.2.2 ∧ va_AO C s0) ∧
  (∀ x ∈ K.2.2.2.2.2.2.2.2, Cond.classLink own x ("[" ++ (FieldType.array .int).toString) ∈ T ∧ (Cond.arrayOver (.array .int)).before #[] s0 = true)
/-- what they say of all arrays, of Object's constructor and arraycopy -/
def xOKa (T : List Cond) (E : xE) : Prop :=
  (∀ t : ArrayType, (t = .int ∨ t = .byte ∨ t = .long ∨ t = .boolean) → Cond.arrayClass (newarray.typeOf t) ∈ T ∧ newarray.typeOf t ∈ E.2.2.2.2) ∧ FieldType.array .int ∈ E.2.2.2.2 ∧
  Cond.instanceMethod Lib.objectInit ∈ T ∧ Cond.code Lib.objectInit ⟨#[0xb1]⟩ 1 none ∈ T ∧ Cond.native arraycopyName ∈ T ∧ Cond.static arraycopyName ∈ T ∧ Cond.initialized "java/lang/System" ∈ T ∧ ∀ w ∈ T, goodWord w = true
/-- what they say of a method -/
def xOKm (T : List Cond) (E : xE) (G : xG) (M : xD) (Y : Nat → MethodName) (Z : Nat → ByteArray) (Kd : Nat → Nat) (m : Nat) : Prop :=
  Cond.code (Y m) (Z m) (M m).2.2 (M m).2.1 ∈ T ∧ Cond.initialized (Y m).cls ∈ T ∧ (Y m).cls ≠ "java/lang/invoke/MethodHandle" ∧ (Y m).cls ≠ "java/lang/invoke/VarHandle" ∧ (M m).2.2 ≤ 45 ∧ plainFor (Y m) = true ∧
  (Kd m = 0 → Cond.instanceMethod (Y m) ∈ T ∧ Cond.selects (Y m).cls (Y m) (Y m) ∈ T ∧ (parseMethodDescriptor (Y m).desc).map (fun d => d.parameters.length + 1) = some (G.2.1 m) ∧ ∃ r : vw_C, E.2.2.1[G.2.2.1 m]? = some r ∧ r.1 = (Y m).cls) ∧
  (Kd m = 1 → Cond.instanceMethod (Y m) ∈ T ∧ (Y m).name = "<init>" ∧ (M m).2.1 = none ∧ (parseMethodDescriptor (Y m).desc).map (fun d => d.parameters.length + 1) = some (G.2.1 m)) ∧
  (Kd m = 2 → Cond.static (Y m) ∈ T ∧ (parseMethodDescriptor (Y m).desc).map (fun d => d.parameters.length) = some (G.2.1 m))
