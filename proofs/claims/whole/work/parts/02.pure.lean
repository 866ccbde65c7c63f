/-! A PURE MACHINE for this claim's code. A heap: how many cells; each cell's kind (an array's element type, or the number of its object's kind) and length; the ints, longs and references in it. A reference is a place: the order of making. -/
abbrev xH : Type := Nat × (Nat → (FieldType ⊕ Nat) × Nat) × (Nat → Nat → Int32) × (Nat → Nat → Int64) × (Nat → Nat → Option Nat)
abbrev xQ : Type := Option Value → xH → Prop
abbrev xL : Type := List (Option Value)
def up2 {α : Type} (f : Nat → Nat → α) (a j : Nat) (x : α) : Nat → Nat → α := fun b k => if b = a ∧ k = j then x else f b k
def upr {α : Type} (f : Nat → Nat → α) (a : Nat) (g : Nat → α) : Nat → Nat → α := fun b => if b = a then g else f b
def xN (h : xH) : Nat := h.1
def xS (h : xH) : Nat → (FieldType ⊕ Nat) × Nat := h.2.1
def xI (h : xH) : Nat → Nat → Int32 := h.2.2.1
def xJ (h : xH) : Nat → Nat → Int64 := h.2.2.2.1
def xR (h : xH) : Nat → Nat → Option Nat := h.2.2.2.2
def setI (h : xH) (a j : Nat) (x : Int32) : xH := (h.1, h.2.1, up2 h.2.2.1 a j x, h.2.2.2.1, h.2.2.2.2)
def setJ (h : xH) (a j : Nat) (x : Int64) : xH := (h.1, h.2.1, h.2.2.1, up2 h.2.2.2.1 a j x, h.2.2.2.2)
def setR (h : xH) (a j : Nat) (x : Option Nat) : xH := (h.1, h.2.1, h.2.2.1, h.2.2.2.1, up2 h.2.2.2.2 a j x)
def rowI (h : xH) (a : Nat) (g : Nat → Int32) : xH := (h.1, h.2.1, upr h.2.2.1 a g, h.2.2.2.1, h.2.2.2.2)
/-- a new cell -/
def xnew (h : xH) (k : (FieldType ⊕ Nat) × Nat) : xH := (h.1 + 1, (fun b => if b = h.1 then k else h.2.1 b), upr h.2.2.1 h.1 (fun _ => 0), upr h.2.2.2.1 h.1 (fun _ => 0), upr h.2.2.2.2 h.1 (fun _ => none))
/-- new int[n1][n2] -/
def xnew2 (h : xH) (n1 n2 : Nat) : xH := (h.1 + 1 + n1, (fun b => if b = h.1 then (.inl (.array .int), n1) else if h.1 < b ∧ b < h.1 + 1 + n1 then (.inl .int, n2) else h.2.1 b), (fun b k => if h.1 ≤ b ∧ b < h.1 + 1 + n1 then 0 else h.2.2.1 b k), h.2.2.2.1, upr h.2.2.2.2 h.1 (fun j => if j < n1 then some (h.1 + 1 + j) else none))
def xis (h : xH) (a : Nat) (k : FieldType ⊕ Nat) : Prop := a < h.1 ∧ (h.2.1 a).1 = k
def xlen (h : xH) (a : Nat) : Nat := (h.2.1 a).2
/-- what lies in all cells together -/
def xsl (h : xH) : Nat := ((List.range h.1).map (fun k => (h.2.1 k).2)).sum
def xle (h h' : xH) : Prop := h.1 ≤ h'.1 ∧ xsl h ≤ xsl h'
theorem xle.rf (h : xH) : xle h h := ⟨Nat.le_refl _, Nat.le_refl _⟩
theorem xle.tr {a b c : xH} (h1 : xle a b) (h2 : xle b c) : xle a c := ⟨Nat.le_trans h1.1 h2.1, Nat.le_trans h1.2 h2.2⟩
theorem xsl_new (h : xH) (k : (FieldType ⊕ Nat) × Nat) : xsl (xnew h k) = xsl h + k.2 := by
  unfold xsl xnew
  simp only [List.range_succ, List.map_append, List.map_cons, List.map_nil, List.sum_append, List.sum_cons, List.sum_nil, if_pos]
  congr 1
  congr 1
  apply List.map_congr_left
  intro b hb
  have := List.mem_range.mp hb
  rw [if_neg (by omega)]
theorem xle_new (h : xH) (k : (FieldType ⊕ Nat) × Nat) : xle h (xnew h k) := ⟨Nat.le_succ _, by rw [xsl_new]; exact Nat.le_add_right _ _⟩
theorem xsl_same {h h' : xH} (h1 : h'.1 = h.1) (h2 : h'.2.1 = h.2.1) : xsl h' = xsl h := by
  unfold xsl; rw [h1, h2]
theorem xle_same {h h' : xH} (h1 : h'.1 = h.1) (h2 : h'.2.1 = h.2.1) : xle h h' := ⟨by rw [h1]; exact Nat.le_refl _, by rw [xsl_same h1 h2]; exact Nat.le_refl _⟩
theorem xsl_new2 (h : xH) (n1 n2 : Nat) : xsl (xnew2 h n1 n2) = xsl h + (n1 + n1 * n2) := by
  unfold xsl xnew2
  simp only [List.range_add, List.map_append, List.sum_append, List.map_map]
  have e1 : (List.map (fun k => (if k = h.1 then ((.inl (.array .int), n1) : (FieldType ⊕ Nat) × Nat) else if h.1 < k ∧ k < h.1 + 1 + n1 then (.inl .int, n2) else h.2.1 k).2) (List.range h.1)) = List.map (fun k => (h.2.1 k).2) (List.range h.1) := by
    apply List.map_congr_left
    intro b hb
    have := List.mem_range.mp hb
    rw [if_neg (by omega), if_neg (by omega)]
  have e3 : (List.map ((fun k => (if k = h.1 then ((.inl (.array .int), n1) : (FieldType ⊕ Nat) × Nat) else if h.1 < k ∧ k < h.1 + 1 + n1 then (.inl .int, n2) else h.2.1 k).2) ∘ fun x => h.1 + 1 + x) (List.range n1)) = List.replicate n1 n2 := by
    apply List.ext_getElem
    · simp
    · intro i h1 h2
      simp only [List.getElem_map, List.getElem_range, Function.comp_apply, List.getElem_replicate]
      simp at h1
      rw [if_neg (by omega), if_pos (by omega)]
  rw [e1, e3]
  simp [List.sum_replicate_nat]
  omega
theorem xle_new2 (h : xH) (n1 n2 : Nat) : xle h (xnew2 h n1 n2) := ⟨by show h.1 ≤ h.1 + 1 + n1; omega, by rw [xsl_new2]; exact Nat.le_add_right _ _⟩
/-- an int that a field, or an answer, of this type may hold -/
def xfit (ty : FieldType) (x : Int32) : Prop := match ty with
  | .int => True
  | .boolean => x = 0 ∨ x = 1
  | _ => False
/-- what an array of this type keeps of an int -/
def xcut (ty : FieldType) (x : Int32) : Int32 := match ty with
  | .byte => x.toInt8.toInt32
  | .boolean => x &&& 1
  | _ => x
def xcl (ls : xL) (i : Nat) : xL := match i with
  | 0 => ls
  | j + 1 => match ls.getD j none with
    | some (.long _) => ls.set j none
    | some (.double _) => ls.set j none
    | _ => ls
def xst (ls : xL) (i : Nat) (v : Value) : xL := (xcl ls i).set i (some v)
def xst2 (ls : xL) (i : Nat) (v : Value) : xL := ((xcl ls i).set i (some v)).set (i + 1) none
/-- the tables: fields of a kind; arguments of a method (its object among them); the kind of its object; the types of fields; names of kinds; the script's length and ints -/
abbrev xG : Type := (Nat → Nat) × (Nat → Nat) × (Nat → Nat) × (Nat → Nat → FieldType) × (Nat → String) × Nat × (Nat → Int32)
def xcond (c : ClassFile.Cond) (x y : Int32) : Bool := match c with
  | .eq => decide (x = y)
  | .ne => decide (¬ x = y)
  | .lt => decide (x < y)
  | .ge => decide (y ≤ x)
  | .gt => decide (y < x)
  | .le => decide (x ≤ y)
/-- a place in a table of jumps -/
def xsw (d lo hi : Int) (o : Array Int) (x : Int32) : Nat := if x.toInt < lo ∨ hi < x.toInt then d.toNat else (o.getD (x.toInt - lo).toNat 0).toNat
def xrf (r : Option Nat) : Value := match r with
  | none => .null
  | some a => .ref a
/-- the texts of the class: by number from 1 on; where each is named -/
def xlit : List (String × Nat × String × UInt32) := [("RankFord$FordReader", 41, "ford person thinks", 1), ("RankFord$RuleReader", 81, "go", 2), ("RankFord$RuleReader", 93, "person with alone depth height purse fee thinks self here over day", 3), ("RankFord$RuleReader", 113, "not", 4), ("RankFord$RuleReader", 131, "if", 5), ("RankFord$RuleReader", 143, "and", 6), ("RankFord$RuleReader", 145, "or", 7)]
def xlb : List (List Int32) := [[102, 111, 114, 100, 32, 112, 101, 114, 115, 111, 110, 32, 116, 104, 105, 110, 107, 115], [103, 111], [112, 101, 114, 115, 111, 110, 32, 119, 105, 116, 104, 32, 97, 108, 111, 110, 101, 32, 100, 101, 112, 116, 104, 32, 104, 101, 105, 103, 104, 116, 32, 112, 117, 114, 115, 101, 32, 102, 101, 101, 32, 116, 104, 105, 110, 107, 115, 32, 115, 101, 108, 102, 32, 104, 101, 114, 101, 32, 111, 118, 101, 114, 32, 100, 97, 121], [110, 111, 116], [105, 102], [97, 110, 100], [111, 114]]
def xstr (u : UInt32) : List Int32 := xlb.getD (u.toNat - 1) []
def xokU (u : UInt32) : Prop := 1 ≤ u.toNat ∧ u.toNat ≤ 7
/-- one instruction: what must hold, and where it goes on -/
def xstep (G : xG) (C : Nat → List Value → xH → xQ → Prop) (B : Nat → List Instr) (rt : Option FieldType) (Q : xQ) (k : List Instr → xL → List Value → xH → Prop) (is0 : List Instr) (ls : xL) (st : List Value) (h : xH) : Prop := match is0 with
  | [] => False
  | i :: is => match i with
    | .iconst v => k is ls (.int (Int32.ofInt v) :: st) h
    | .sipush v => k is ls (.long (Int64.ofInt v) :: st) h
    | .aconst_null => k is ls (.null :: st) h
    | .ldc u => k is ls (.float (UInt32.ofNat u) :: st) h
    | .f2i => match st with
      | .float u :: st => (xokU u ∧ (st.map fun v => v.category).sum ≤ 8) ∧ k is ls (.int (Int32.ofNat (xstr u).length) :: st) h
      | _ => False
    | .faload => match st with
      | .int i :: .float u :: st => (xokU u ∧ vp_in i (xstr u).length ∧ (st.map fun v => v.category).sum ≤ 8) ∧ k is ls (.int ((xstr u).getD i.toNatClampNeg 0) :: st) h
      | _ => False
    | .iload a => match ls.getD a none with
      | some (.int x) => k is ls (.int x :: st) h
      | _ => False
    | .lload a => match ls.getD a none with
      | some (.long x) => k is ls (.long x :: st) h
      | _ => False
    | .aload a => match ls.getD a none with
      | some (.ref x) => k is ls (.ref x :: st) h
      | some .null => k is ls (.null :: st) h
      | some (.float x) => k is ls (.float x :: st) h
      | _ => False
    | .istore a => match st with
      | .int x :: st => k is (xst ls a (.int x)) st h
      | _ => False
    | .lstore a => match st with
      | .long x :: st => k is (xst2 ls a (.long x)) st h
      | _ => False
    | .astore a => match st with
      | .ref x :: st => k is (xst ls a (.ref x)) st h
      | .null :: st => k is (xst ls a .null) st h
      | _ => False
    | .iinc a c => match ls.getD a none with
      | some (.int x) => k is (xst ls a (.int (x + Int32.ofInt c))) st h
      | _ => False
    | .iadd => match st with
      | .int y :: .int x :: st => k is ls (.int (x + y) :: st) h
      | _ => False
    | .isub => match st with
      | .int y :: .int x :: st => k is ls (.int (x - y) :: st) h
      | _ => False
    | .imul => match st with
      | .int y :: .int x :: st => k is ls (.int (x * y) :: st) h
      | _ => False
    | .idiv => match st with
      | .int y :: .int x :: st => (¬ y = 0) ∧ k is ls (.int (x / y) :: st) h
      | _ => False
    | .irem => match st with
      | .int y :: .int x :: st => (¬ y = 0) ∧ k is ls (.int (x - x / y * y) :: st) h
      | _ => False
    | .ineg => match st with
      | .int x :: st => k is ls (.int (-x) :: st) h
      | _ => False
    | .iand => match st with
      | .int y :: .int x :: st => k is ls (.int (x &&& y) :: st) h
      | _ => False
    | .ior => match st with
      | .int y :: .int x :: st => k is ls (.int (x ||| y) :: st) h
      | _ => False
    | .ixor => match st with
      | .int y :: .int x :: st => k is ls (.int (x ^^^ y) :: st) h
      | _ => False
    | .ishl => match st with
      | .int y :: .int x :: st => k is ls (.int (x <<< (y &&& 31)) :: st) h
      | _ => False
    | .ishr => match st with
      | .int y :: .int x :: st => k is ls (.int (x >>> (y &&& 31)) :: st) h
      | _ => False
    | .iushr => match st with
      | .int y :: .int x :: st => k is ls (.int (x.toUInt32 >>> (y.toUInt32 &&& Int32.toUInt32 31)).toInt32 :: st) h
      | _ => False
    | .ladd => match st with
      | .long y :: .long x :: st => k is ls (.long (x + y) :: st) h
      | _ => False
    | .lsub => match st with
      | .long y :: .long x :: st => k is ls (.long (x - y) :: st) h
      | _ => False
    | .lmul => match st with
      | .long y :: .long x :: st => k is ls (.long (x * y) :: st) h
      | _ => False
    | .ldiv => match st with
      | .long y :: .long x :: st => (¬ y = 0) ∧ k is ls (.long (x / y) :: st) h
      | _ => False
    | .lrem => match st with
      | .long y :: .long x :: st => (¬ y = 0) ∧ k is ls (.long (x - x / y * y) :: st) h
      | _ => False
    | .land => match st with
      | .long y :: .long x :: st => k is ls (.long (x &&& y) :: st) h
      | _ => False
    | .lor => match st with
      | .long y :: .long x :: st => k is ls (.long (x ||| y) :: st) h
      | _ => False
    | .lshl => match st with
      | .int y :: .long x :: st => k is ls (.long (x <<< (y.toInt64 &&& 63)) :: st) h
      | _ => False
    | .lcmp => match st with
      | .long y :: .long x :: st => k is ls (.int (lg_cmp x y) :: st) h
      | _ => False
    | .i2l => match st with
      | .int x :: st => k is ls (.long x.toInt64 :: st) h
      | _ => False
    | .l2i => match st with
      | .long x :: st => k is ls (.int x.toInt32 :: st) h
      | _ => False
    | .i2b => match st with
      | .int x :: st => k is ls (.int x.toInt8.toInt32 :: st) h
      | _ => False
    | .dup => match st with
      | .int x :: st => k is ls (.int x :: .int x :: st) h
      | .ref x :: st => k is ls (.ref x :: .ref x :: st) h
      | _ => False
    | .dup2 => match st with
      | .int y :: .ref x :: st => k is ls (.int y :: .ref x :: .int y :: .ref x :: st) h
      | _ => False
    | .pop => match st with
      | .int _ :: st => k is ls st h
      | .ref _ :: st => k is ls st h
      | _ => False
    | .ifCond c t => match st with
      | .int x :: st => if xcond c x 0 = true then k (B t.toNat) ls st h else k is ls st h
      | _ => False
    | .if_icmp c t => match st with
      | .int y :: .int x :: st => if xcond c x y = true then k (B t.toNat) ls st h else k is ls st h
      | _ => False
    | .ifnull t => match st with
      | .null :: st => k (B t.toNat) ls st h
      | .ref _ :: st => k is ls st h
      | _ => False
    | .ifnonnull t => match st with
      | .null :: st => k is ls st h
      | .ref _ :: st => k (B t.toNat) ls st h
      | _ => False
    | .goto t => k (B t.toNat) ls st h
    | .jsr t => k (B t.toNat) ls st h
    | .tableswitch d lo hi o => match st with
      | .int x :: st => k (B (xsw d lo hi o x)) ls st h
      | _ => False
    | .lookupswitch d o => match st with
      | .int x :: st => k (B (Op.lookupswitch.offset o.toList d x.toInt).toNat) ls st h
      | _ => False
    | .getfield c => match st with
      | .ref a :: st => xis h a (.inr (c / 64)) ∧ k is ls (.int (xI h a (c % 64)) :: st) h
      | _ => False
    | .dload c => match st with
      | .ref a :: st => xis h a (.inr (c / 64)) ∧ k is ls (.long (xJ h a (c % 64)) :: st) h
      | _ => False
    | .fload c => match st with
      | .ref a :: st => xis h a (.inr (c / 64)) ∧ k is ls (xrf (xR h a (c % 64)) :: st) h
      | _ => False
    | .putfield c => match st with
      | .int x :: .ref a :: st => xis h a (.inr (c / 64)) ∧ xfit (G.2.2.2.1 (c / 64) (c % 64)) x ∧ k is ls st (setI h a (c % 64) x)
      | _ => False
    | .dstore c => match st with
      | .long x :: .ref a :: st => xis h a (.inr (c / 64)) ∧ k is ls st (setJ h a (c % 64) x)
      | _ => False
    | .fstore c => match st with
      | .ref x :: .ref a :: st => xis h a (.inr (c / 64)) ∧ k is ls st (setR h a (c % 64) (some x))
      | .null :: .ref a :: st => xis h a (.inr (c / 64)) ∧ k is ls st (setR h a (c % 64) none)
      | _ => False
    | .invokevirtual m => match (st.take (G.2.1 m)).reverse with
      | .ref a :: as => (xis h a (.inr (G.2.2.1 m)) ∧ (st.take (G.2.1 m)).length = G.2.1 m ∧ ((st.drop (G.2.1 m)).map fun v => v.category).sum ≤ 8) ∧ C m (.ref a :: as) h (fun v h' => k is ls (v.toList ++ st.drop (G.2.1 m)) h')
      | _ => False
    | .invokespecial m => match (st.take (G.2.1 m)).reverse with
      | .ref a :: as => ((st.take (G.2.1 m)).length = G.2.1 m ∧ ((st.drop (G.2.1 m)).map fun v => v.category).sum ≤ 8) ∧ C m (.ref a :: as) h (fun v h' => k is ls (v.toList ++ st.drop (G.2.1 m)) h')
      | _ => False
    | .invokestatic m => ((st.take (G.2.1 m)).length = G.2.1 m ∧ ((st.drop (G.2.1 m)).map fun v => v.category).sum ≤ 8) ∧ C m (st.take (G.2.1 m)).reverse h (fun v h' => k is ls (v.toList ++ st.drop (G.2.1 m)) h')
    | .monitorenter => match st with
      | .ref _ :: st => ((st.map fun v => v.category).sum ≤ 8) ∧ k is ls st h
      | _ => False
    | .new c => k is ls (.ref h.1 :: st) (xnew h (.inr c, G.1 c))
    | .newarray t => match st with
      | .int n :: st => (¬ n < 0 ∧ n.toNatClampNeg ≤ 1000000) ∧ k is ls (.ref h.1 :: st) (xnew h (.inl (newarray.typeOf t), n.toNatClampNeg))
      | _ => False
    | .anewarray c => match st with
      | .int n :: st => (¬ n < 0 ∧ n.toNatClampNeg ≤ 1000000) ∧ k is ls (.ref h.1 :: st) (xnew h (.inl (.object (G.2.2.2.2.1 c)), n.toNatClampNeg))
      | _ => False
    | .multianewarray _ _ => match st with
      | .int n2 :: .int n1 :: st => (¬ n1 < 0 ∧ ¬ n2 < 0 ∧ n1.toNatClampNeg ≤ 1000 ∧ n2.toNatClampNeg ≤ 1000) ∧ k is ls (.ref h.1 :: st) (xnew2 h n1.toNatClampNeg n2.toNatClampNeg)
      | _ => False
    | .arraylength => match st with
      | .ref a :: st => (∃ ty, xis h a (.inl ty) ∧ ty ∈ [FieldType.int, .byte, .long, .boolean, .object "RankFord$Rule"]) ∧ k is ls (.int (Int32.ofNat (xlen h a)) :: st) h
      | .float u :: st => u = 0 ∧ k is ls (.int (Int32.ofNat G.2.2.2.2.2.1) :: st) h
      | _ => False
    | .iaload => match st with
      | .int i :: .ref a :: st => (xis h a (.inl .int) ∧ vp_in i (xlen h a)) ∧ k is ls (.int (xI h a i.toNatClampNeg) :: st) h
      | .int i :: .float u :: st => (u = 0 ∧ vp_in i G.2.2.2.2.2.1) ∧ k is ls (.int (G.2.2.2.2.2.2 i.toNatClampNeg) :: st) h
      | _ => False
    | .baload => match st with
      | .int i :: .ref a :: st => ((xis h a (.inl .byte) ∨ xis h a (.inl .boolean)) ∧ vp_in i (xlen h a)) ∧ k is ls (.int (xI h a i.toNatClampNeg) :: st) h
      | _ => False
    | .laload => match st with
      | .int i :: .ref a :: st => (xis h a (.inl .long) ∧ vp_in i (xlen h a)) ∧ k is ls (.long (xJ h a i.toNatClampNeg) :: st) h
      | _ => False
    | .aaload => match st with
      | .int i :: .ref a :: st => ((∃ ty, xis h a (.inl ty) ∧ (ty = .array .int ∨ ∃ c, ty = .object (G.2.2.2.2.1 c) ∧ c < 64)) ∧ vp_in i (xlen h a)) ∧ k is ls (xrf (xR h a i.toNatClampNeg) :: st) h
      | _ => False
    | .iastore => match st with
      | .int x :: .int i :: .ref a :: st => (xis h a (.inl .int) ∧ vp_in i (xlen h a)) ∧ k is ls st (setI h a i.toNatClampNeg x)
      | _ => False
    | .bastore => match st with
      | .int x :: .int i :: .ref a :: st => ∃ ty, (xis h a (.inl ty) ∧ (ty = .byte ∨ ty = .boolean) ∧ vp_in i (xlen h a)) ∧ k is ls st (setI h a i.toNatClampNeg (xcut ty x))
      | _ => False
    | .lastore => match st with
      | .long x :: .int i :: .ref a :: st => (xis h a (.inl .long) ∧ vp_in i (xlen h a)) ∧ k is ls st (setJ h a i.toNatClampNeg x)
      | _ => False
    | .aastore => match st with
      | .ref x :: .int i :: .ref a :: st => (∃ c, xis h x (.inr c) ∧ xis h a (.inl (.object (G.2.2.2.2.1 c))) ∧ vp_in i (xlen h a)) ∧ k is ls st (setR h a i.toNatClampNeg (some x))
      | _ => False
    | .caload => match st with
      | .int n :: .int dp :: .ref b :: .int sp :: .ref a :: st => (xis h a (.inl .int) ∧ xis h b (.inl .int) ∧ ¬ sp < 0 ∧ ¬ dp < 0 ∧ ¬ n < 0 ∧ sp.toNatClampNeg + n.toNatClampNeg ≤ xlen h a ∧ dp.toNatClampNeg + n.toNatClampNeg ≤ xlen h b ∧ (st.map fun v => v.category).sum ≤ 8) ∧ k is ls st (rowI h b (va_cpy (xI h a) (xI h b) sp.toNatClampNeg dp.toNatClampNeg n.toNatClampNeg))
      | _ => False
    | .ireturn => match st with
      | [.int x] => (∃ ty, rt = some ty ∧ xfit ty x) ∧ Q (some (.int x)) h
      | _ => False
    | .lreturn => match st with
      | [.long x] => rt = some .long ∧ Q (some (.long x)) h
      | _ => False
    | .areturn => match st with
      | [.ref x] => (∃ ty, rt = some ty ∧ ((∃ n, ty = .object n) ∨ ∃ t, ty = .array t)) ∧ Q (some (.ref x)) h
      | [.null] => (∃ ty, rt = some ty ∧ ((∃ n, ty = .object n) ∨ ∃ t, ty = .array t)) ∧ Q (some .null) h
      | _ => False
    | .return_ => match st with
      | [] => rt = none ∧ Q none h
      | _ => False
    | _ => False
def ev (G : xG) (C : Nat → List Value → xH → xQ → Prop) (B : Nat → List Instr) (rt : Option FieldType) (Q : xQ) : Nat → List Instr → xL → List Value → xH → Prop
  | 0 => fun _ _ _ _ => False
  | n + 1 => xstep G C B rt Q (ev G C B rt Q n)
/-- the arguments laid into places -/
def xent (vs : List Value) : xL := match vs with
  | [] => []
  | .long x :: vs => some (.long x) :: none :: xent vs
  | .double x :: vs => some (.double x) :: none :: xent vs
  | v :: vs => some v :: xent vs
def xentry (vs : List Value) (n : Nat) : xL := xent vs ++ List.replicate (n - (xent vs).length) none
/-- a method: its jumps' targets, the answer's type, how many places -/
abbrev xD : Type := Nat → (Nat → List Instr) × Option FieldType × Nat
def Call (G : xG) (M : xD) : Nat → Nat → List Value → xH → xQ → Prop
  | 0 => fun _ _ _ _ => False
  | d + 1 => fun m as h Q => (xent as).length ≤ (M m).2.2 ∧ ∃ n, ev G (Call G M d) (M m).1 (M m).2.1 Q n ((M m).1 0) (xentry as (M m).2.2) [] h
