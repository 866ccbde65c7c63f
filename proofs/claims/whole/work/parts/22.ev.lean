section EV
variable {G : xG} {M : xD} {d : Nat} {B : Nat → List Instr} {rt : Option FieldType} {Q : xQ} {is : List Instr} {ls : xL} {st : List Value} {h : xH}
/-- it comes to an end, with Q -/
def Ev (G : xG) (M : xD) (d : Nat) (B : Nat → List Instr) (rt : Option FieldType) (Q : xQ) (is : List Instr) (ls : xL) (st : List Value) (h : xH) : Prop := ∃ n, ev G (Call G M d) B rt Q n is ls st h
theorem Ev_iff : Ev G M d B rt Q is ls st h ↔ ∃ n, xstep G (Call G M d) B rt Q (ev G (Call G M d) B rt Q n) is ls st h :=
  ⟨fun ⟨n, e⟩ => match n, e with
    | 0, e => absurd e id
    | n + 1, e => ⟨n, e⟩, fun ⟨n, e⟩ => ⟨n + 1, e⟩⟩
theorem Ev_call {m : Nat} {as : List Value} {K : List Value → xH → List Instr → xL → List Value → Prop} {is' : List Instr} {ls' : xL} {f : Option Value → List Value} : (∃ n, Call G M d m as h (fun v h' => ev G (Call G M d) B rt Q n is' ls' (f v) h')) = Call G M d m as h (fun v h' => Ev G M d B rt Q is' ls' (f v) h') := by
  refine propext ⟨fun ⟨n, e⟩ => ?_, fun e => ?_⟩
  · obtain ⟨v, h', q, -, r⟩ := Call_dt G M d m as h _ e
    exact r _ ⟨n, q⟩
  · obtain ⟨v, h', ⟨n, q⟩, -, r⟩ := Call_dt G M d m as h _ e
    exact ⟨n, r _ q⟩
theorem Ev_and {A : Prop} {P : Nat → Prop} : (∃ n, A ∧ P n) = (A ∧ ∃ n, P n) := propext ⟨fun ⟨n, a, p⟩ => ⟨a, n, p⟩, fun ⟨a, n, p⟩ => ⟨n, a, p⟩⟩
theorem Call_succ {m : Nat} {as : List Value} : Call G M (d + 1) m as h Q = ((xent as).length ≤ (M m).2.2 ∧ Ev G M d (M m).1 (M m).2.1 Q ((M m).1 0) (xentry as (M m).2.2) [] h) := rfl

theorem e_iconst {v : Int} : Ev G M d B rt Q (.iconst v :: is) ls (st) h = Ev G M d B rt Q is ls (.int (Int32.ofInt v) :: st) h := propext Ev_iff
theorem e_lconst {v : Int} : Ev G M d B rt Q (.sipush v :: is) ls (st) h = Ev G M d B rt Q is ls (.long (Int64.ofInt v) :: st) h := propext Ev_iff
theorem e_null  : Ev G M d B rt Q (.aconst_null :: is) ls (st) h = Ev G M d B rt Q is ls (.null :: st) h := propext Ev_iff
theorem e_iload {a : Nat} {x : Int32} (hx : ls.getD a none = some (.int x)) : Ev G M d B rt Q (.iload a :: is) ls st h = Ev G M d B rt Q is ls (.int x :: st) h := by
  refine propext (Ev_iff.trans ?_)
  simp only [xstep, hx]
  rfl
theorem e_lload {a : Nat} {x : Int64} (hx : ls.getD a none = some (.long x)) : Ev G M d B rt Q (.lload a :: is) ls st h = Ev G M d B rt Q is ls (.long x :: st) h := by
  refine propext (Ev_iff.trans ?_)
  simp only [xstep, hx]
  rfl
theorem e_aload {a x : Nat} (hx : ls.getD a none = some (.ref x)) : Ev G M d B rt Q (.aload a :: is) ls st h = Ev G M d B rt Q is ls (.ref x :: st) h := by
  refine propext (Ev_iff.trans ?_)
  simp only [xstep, hx]
  rfl
theorem e_aloadN {a : Nat} (hx : ls.getD a none = some .null) : Ev G M d B rt Q (.aload a :: is) ls st h = Ev G M d B rt Q is ls (.null :: st) h := by
  refine propext (Ev_iff.trans ?_)
  simp only [xstep, hx]
  rfl
theorem e_aloadF {a : Nat} {x : UInt32} (hx : ls.getD a none = some (.float x)) : Ev G M d B rt Q (.aload a :: is) ls st h = Ev G M d B rt Q is ls (.float x :: st) h := by
  refine propext (Ev_iff.trans ?_)
  simp only [xstep, hx]
  rfl
theorem e_istore {a : Nat} {x : Int32} : Ev G M d B rt Q (.istore a :: is) ls (.int x :: st) h = (Ev G M d B rt Q is (xst ls a (.int x)) st h) := propext Ev_iff
theorem e_lstore {a : Nat} {x : Int64} : Ev G M d B rt Q (.lstore a :: is) ls (.long x :: st) h = (Ev G M d B rt Q is (xst2 ls a (.long x)) st h) := propext Ev_iff
theorem e_astore {a x : Nat} : Ev G M d B rt Q (.astore a :: is) ls (.ref x :: st) h = (Ev G M d B rt Q is (xst ls a (.ref x)) st h) := propext Ev_iff
theorem e_astoreN {a : Nat} : Ev G M d B rt Q (.astore a :: is) ls (.null :: st) h = (Ev G M d B rt Q is (xst ls a .null) st h) := propext Ev_iff
theorem e_iinc {a : Nat} {c : Int} {x : Int32} (hx : ls.getD a none = some (.int x)) : Ev G M d B rt Q (.iinc a c :: is) ls st h = Ev G M d B rt Q is (xst ls a (.int (x + Int32.ofInt c))) st h := by
  refine propext (Ev_iff.trans ?_)
  simp only [xstep, hx]
  rfl
theorem e_iadd {x y : Int32} : Ev G M d B rt Q (.iadd :: is) ls (.int y :: .int x :: st) h = Ev G M d B rt Q is ls (.int (x + y) :: st) h := propext Ev_iff
theorem e_isub {x y : Int32} : Ev G M d B rt Q (.isub :: is) ls (.int y :: .int x :: st) h = Ev G M d B rt Q is ls (.int (x - y) :: st) h := propext Ev_iff
theorem e_imul {x y : Int32} : Ev G M d B rt Q (.imul :: is) ls (.int y :: .int x :: st) h = Ev G M d B rt Q is ls (.int (x * y) :: st) h := propext Ev_iff
theorem e_iand {x y : Int32} : Ev G M d B rt Q (.iand :: is) ls (.int y :: .int x :: st) h = Ev G M d B rt Q is ls (.int (x &&& y) :: st) h := propext Ev_iff
theorem e_ior {x y : Int32} : Ev G M d B rt Q (.ior :: is) ls (.int y :: .int x :: st) h = Ev G M d B rt Q is ls (.int (x ||| y) :: st) h := propext Ev_iff
theorem e_ixor {x y : Int32} : Ev G M d B rt Q (.ixor :: is) ls (.int y :: .int x :: st) h = Ev G M d B rt Q is ls (.int (x ^^^ y) :: st) h := propext Ev_iff
theorem e_ishl {x y : Int32} : Ev G M d B rt Q (.ishl :: is) ls (.int y :: .int x :: st) h = Ev G M d B rt Q is ls (.int (x <<< (y &&& 31)) :: st) h := propext Ev_iff
theorem e_ishr {x y : Int32} : Ev G M d B rt Q (.ishr :: is) ls (.int y :: .int x :: st) h = Ev G M d B rt Q is ls (.int (x >>> (y &&& 31)) :: st) h := propext Ev_iff
theorem e_iushr {x y : Int32} : Ev G M d B rt Q (.iushr :: is) ls (.int y :: .int x :: st) h = Ev G M d B rt Q is ls (.int (x.toUInt32 >>> (y.toUInt32 &&& Int32.toUInt32 31)).toInt32 :: st) h := propext Ev_iff
theorem e_ladd {x y : Int64} : Ev G M d B rt Q (.ladd :: is) ls (.long y :: .long x :: st) h = Ev G M d B rt Q is ls (.long (x + y) :: st) h := propext Ev_iff
theorem e_lsub {x y : Int64} : Ev G M d B rt Q (.lsub :: is) ls (.long y :: .long x :: st) h = Ev G M d B rt Q is ls (.long (x - y) :: st) h := propext Ev_iff
theorem e_lmul {x y : Int64} : Ev G M d B rt Q (.lmul :: is) ls (.long y :: .long x :: st) h = Ev G M d B rt Q is ls (.long (x * y) :: st) h := propext Ev_iff
theorem e_land {x y : Int64} : Ev G M d B rt Q (.land :: is) ls (.long y :: .long x :: st) h = Ev G M d B rt Q is ls (.long (x &&& y) :: st) h := propext Ev_iff
theorem e_lor {x y : Int64} : Ev G M d B rt Q (.lor :: is) ls (.long y :: .long x :: st) h = Ev G M d B rt Q is ls (.long (x ||| y) :: st) h := propext Ev_iff
theorem e_lshl {x : Int64} {y : Int32} : Ev G M d B rt Q (.lshl :: is) ls (.int y :: .long x :: st) h = Ev G M d B rt Q is ls (.long (x <<< (y.toInt64 &&& 63)) :: st) h := propext Ev_iff
theorem e_lcmp {x y : Int64} : Ev G M d B rt Q (.lcmp :: is) ls (.long y :: .long x :: st) h = Ev G M d B rt Q is ls (.int (lg_cmp x y) :: st) h := propext Ev_iff
theorem e_i2l {x : Int32} : Ev G M d B rt Q (.i2l :: is) ls (.int x :: st) h = Ev G M d B rt Q is ls (.long x.toInt64 :: st) h := propext Ev_iff
theorem e_l2i {x : Int64} : Ev G M d B rt Q (.l2i :: is) ls (.long x :: st) h = Ev G M d B rt Q is ls (.int x.toInt32 :: st) h := propext Ev_iff
theorem e_i2b {x : Int32} : Ev G M d B rt Q (.i2b :: is) ls (.int x :: st) h = Ev G M d B rt Q is ls (.int x.toInt8.toInt32 :: st) h := propext Ev_iff
theorem e_ineg {x : Int32} : Ev G M d B rt Q (.ineg :: is) ls (.int x :: st) h = Ev G M d B rt Q is ls (.int (-x) :: st) h := propext Ev_iff
theorem e_dupi {x : Int32} : Ev G M d B rt Q (.dup :: is) ls (.int x :: st) h = Ev G M d B rt Q is ls (.int x :: .int x :: st) h := propext Ev_iff
theorem e_dupr {x : Nat} : Ev G M d B rt Q (.dup :: is) ls (.ref x :: st) h = Ev G M d B rt Q is ls (.ref x :: .ref x :: st) h := propext Ev_iff
theorem e_dup2 {x : Nat} {y : Int32} : Ev G M d B rt Q (.dup2 :: is) ls (.int y :: .ref x :: st) h = Ev G M d B rt Q is ls (.int y :: .ref x :: .int y :: .ref x :: st) h := propext Ev_iff
theorem e_popi {x : Int32} : Ev G M d B rt Q (.pop :: is) ls (.int x :: st) h = Ev G M d B rt Q is ls (st) h := propext Ev_iff
theorem e_popr {x : Nat} : Ev G M d B rt Q (.pop :: is) ls (.ref x :: st) h = Ev G M d B rt Q is ls (st) h := propext Ev_iff
theorem e_idiv {x y : Int32} : Ev G M d B rt Q (.idiv :: is) ls (.int y :: .int x :: st) h = ((¬ y = 0) ∧ Ev G M d B rt Q is ls (.int (x / y) :: st) h) := (propext Ev_iff).trans Ev_and
theorem e_irem {x y : Int32} : Ev G M d B rt Q (.irem :: is) ls (.int y :: .int x :: st) h = ((¬ y = 0) ∧ Ev G M d B rt Q is ls (.int (x - x / y * y) :: st) h) := (propext Ev_iff).trans Ev_and
theorem e_ldiv {x y : Int64} : Ev G M d B rt Q (.ldiv :: is) ls (.long y :: .long x :: st) h = ((¬ y = 0) ∧ Ev G M d B rt Q is ls (.long (x / y) :: st) h) := (propext Ev_iff).trans Ev_and
theorem e_lrem {x y : Int64} : Ev G M d B rt Q (.lrem :: is) ls (.long y :: .long x :: st) h = ((¬ y = 0) ∧ Ev G M d B rt Q is ls (.long (x - x / y * y) :: st) h) := (propext Ev_iff).trans Ev_and
theorem e_ifCond {x : Int32} {c : ClassFile.Cond} {t : Int} : Ev G M d B rt Q (.ifCond c t :: is) ls (.int x :: st) h = (if xcond c x 0 = true then Ev G M d B rt Q (B t.toNat) ls st h else Ev G M d B rt Q is ls st h) := by
  refine propext (Ev_iff.trans ?_)
  simp only [xstep]
  by_cases q : xcond c x 0 = true
  · simp only [if_pos q]; rfl
  · simp only [if_neg q]; rfl
theorem e_if_icmp {x y : Int32} {c : ClassFile.Cond} {t : Int} : Ev G M d B rt Q (.if_icmp c t :: is) ls (.int y :: .int x :: st) h = (if xcond c x y = true then Ev G M d B rt Q (B t.toNat) ls st h else Ev G M d B rt Q is ls st h) := by
  refine propext (Ev_iff.trans ?_)
  simp only [xstep]
  by_cases q : xcond c x y = true
  · simp only [if_pos q]; rfl
  · simp only [if_neg q]; rfl
theorem e_ifnullR {x : Nat} {t : Int} : Ev G M d B rt Q (.ifnull t :: is) ls (.ref x :: st) h = Ev G M d B rt Q is ls (st) h := propext Ev_iff
theorem e_ifnullN {t : Int} : Ev G M d B rt Q (.ifnull t :: is) ls (.null :: st) h = (Ev G M d B rt Q (B t.toNat) ls st h) := propext Ev_iff
theorem e_ifnonnullR {x : Nat} {t : Int} : Ev G M d B rt Q (.ifnonnull t :: is) ls (.ref x :: st) h = (Ev G M d B rt Q (B t.toNat) ls st h) := propext Ev_iff
theorem e_ifnonnullN {t : Int} : Ev G M d B rt Q (.ifnonnull t :: is) ls (.null :: st) h = Ev G M d B rt Q is ls (st) h := propext Ev_iff
theorem e_goto {t : Int} : Ev G M d B rt Q (.goto t :: is) ls st h = (Ev G M d B rt Q (B t.toNat) ls st h) := propext Ev_iff
theorem e_jsr {t : Int} : Ev G M d B rt Q (.jsr t :: is) ls st h = (Ev G M d B rt Q (B t.toNat) ls st h) := propext Ev_iff
theorem e_tsw {x : Int32} {t lo hi : Int} {a : Array Int} : Ev G M d B rt Q (.tableswitch t lo hi a :: is) ls (.int x :: st) h = (Ev G M d B rt Q (B (xsw t lo hi a x)) ls st h) := propext Ev_iff
theorem e_lsw {x : Int32} {t : Int} {a : Array (Int × Int)} : Ev G M d B rt Q (.lookupswitch t a :: is) ls (.int x :: st) h = (Ev G M d B rt Q (B (Op.lookupswitch.offset a.toList t x.toInt).toNat) ls st h) := propext Ev_iff
theorem e_getfield {a c : Nat} : Ev G M d B rt Q (.getfield c :: is) ls (.ref a :: st) h = (xis h a (.inr (c / 64)) ∧ Ev G M d B rt Q is ls (.int (xI h a (c % 64)) :: st) h) := (propext Ev_iff).trans Ev_and
theorem e_dload {a c : Nat} : Ev G M d B rt Q (.dload c :: is) ls (.ref a :: st) h = (xis h a (.inr (c / 64)) ∧ Ev G M d B rt Q is ls (.long (xJ h a (c % 64)) :: st) h) := (propext Ev_iff).trans Ev_and
theorem e_fload {a c : Nat} : Ev G M d B rt Q (.fload c :: is) ls (.ref a :: st) h = (xis h a (.inr (c / 64)) ∧ Ev G M d B rt Q is ls (xrf (xR h a (c % 64)) :: st) h) := (propext Ev_iff).trans Ev_and
theorem e_putfield {a c : Nat} {x : Int32} : Ev G M d B rt Q (.putfield c :: is) ls (.int x :: .ref a :: st) h = (xis h a (.inr (c / 64)) ∧ xfit (G.2.2.2.1 (c / 64) (c % 64)) x ∧ Ev G M d B rt Q is ls st (setI h a (c % 64) x)) := propext (Ev_iff.trans ⟨fun ⟨n, h1, h2, e⟩ => ⟨h1, h2, n, e⟩, fun ⟨h1, h2, n, e⟩ => ⟨n, h1, h2, e⟩⟩)
theorem e_dstore {a c : Nat} {x : Int64} : Ev G M d B rt Q (.dstore c :: is) ls (.long x :: .ref a :: st) h = (xis h a (.inr (c / 64)) ∧ Ev G M d B rt Q is ls (st) (setJ h a (c % 64) x)) := (propext Ev_iff).trans Ev_and
theorem e_fstore {a c x : Nat} : Ev G M d B rt Q (.fstore c :: is) ls (.ref x :: .ref a :: st) h = (xis h a (.inr (c / 64)) ∧ Ev G M d B rt Q is ls (st) (setR h a (c % 64) (some x))) := (propext Ev_iff).trans Ev_and
theorem e_fstoreN {a c : Nat} : Ev G M d B rt Q (.fstore c :: is) ls (.null :: .ref a :: st) h = (xis h a (.inr (c / 64)) ∧ Ev G M d B rt Q is ls (st) (setR h a (c % 64) none)) := (propext Ev_iff).trans Ev_and
theorem e_monitor {a : Nat} : Ev G M d B rt Q (.monitorenter :: is) ls (.ref a :: st) h = ((st.map fun v => v.category).sum ≤ 8 ∧ Ev G M d B rt Q is ls (st) h) := (propext Ev_iff).trans Ev_and
theorem e_new {c : Nat} : Ev G M d B rt Q (.new c :: is) ls st h = Ev G M d B rt Q is ls (.ref h.1 :: st) (xnew h (.inr c, G.1 c)) := propext Ev_iff
theorem e_newarray {t : ArrayType} {n : Int32} : Ev G M d B rt Q (.newarray t :: is) ls (.int n :: st) h = ((¬ n < 0 ∧ n.toNatClampNeg ≤ 1000000) ∧ Ev G M d B rt Q is ls (.ref h.1 :: st) (xnew h (.inl (newarray.typeOf t), n.toNatClampNeg))) := (propext Ev_iff).trans Ev_and
theorem e_anewarray {c : Nat} {n : Int32} : Ev G M d B rt Q (.anewarray c :: is) ls (.int n :: st) h = ((¬ n < 0 ∧ n.toNatClampNeg ≤ 1000000) ∧ Ev G M d B rt Q is ls (.ref h.1 :: st) (xnew h (.inl (.object (G.2.2.2.2.1 c)), n.toNatClampNeg))) := (propext Ev_iff).trans Ev_and
theorem e_mnew {a b : Nat} {n1 n2 : Int32} : Ev G M d B rt Q (.multianewarray a b :: is) ls (.int n2 :: .int n1 :: st) h = ((¬ n1 < 0 ∧ ¬ n2 < 0 ∧ n1.toNatClampNeg ≤ 1000 ∧ n2.toNatClampNeg ≤ 1000) ∧ Ev G M d B rt Q is ls (.ref h.1 :: st) (xnew2 h n1.toNatClampNeg n2.toNatClampNeg)) := (propext Ev_iff).trans Ev_and
theorem e_alen {a : Nat} : Ev G M d B rt Q (.arraylength :: is) ls (.ref a :: st) h = ((∃ ty, xis h a (.inl ty) ∧ ty ∈ [FieldType.int, .byte, .long, .boolean]) ∧ Ev G M d B rt Q is ls (.int (Int32.ofNat (xlen h a)) :: st) h) := (propext Ev_iff).trans Ev_and
theorem e_alenF {u : UInt32} : Ev G M d B rt Q (.arraylength :: is) ls (.float u :: st) h = (u = 0 ∧ Ev G M d B rt Q is ls (.int (Int32.ofNat G.2.2.2.2.2.1) :: st) h) := (propext Ev_iff).trans Ev_and
theorem e_iaload {a : Nat} {i : Int32} : Ev G M d B rt Q (.iaload :: is) ls (.int i :: .ref a :: st) h = ((xis h a (.inl .int) ∧ vp_in i (xlen h a)) ∧ Ev G M d B rt Q is ls (.int (xI h a i.toNatClampNeg) :: st) h) := (propext Ev_iff).trans Ev_and
theorem e_ialoadF {u : UInt32} {i : Int32} : Ev G M d B rt Q (.iaload :: is) ls (.int i :: .float u :: st) h = ((u = 0 ∧ vp_in i G.2.2.2.2.2.1) ∧ Ev G M d B rt Q is ls (.int (G.2.2.2.2.2.2 i.toNatClampNeg) :: st) h) := (propext Ev_iff).trans Ev_and
theorem e_baload {a : Nat} {i : Int32} : Ev G M d B rt Q (.baload :: is) ls (.int i :: .ref a :: st) h = (((xis h a (.inl .byte) ∨ xis h a (.inl .boolean)) ∧ vp_in i (xlen h a)) ∧ Ev G M d B rt Q is ls (.int (xI h a i.toNatClampNeg) :: st) h) := (propext Ev_iff).trans Ev_and
theorem e_laload {a : Nat} {i : Int32} : Ev G M d B rt Q (.laload :: is) ls (.int i :: .ref a :: st) h = ((xis h a (.inl .long) ∧ vp_in i (xlen h a)) ∧ Ev G M d B rt Q is ls (.long (xJ h a i.toNatClampNeg) :: st) h) := (propext Ev_iff).trans Ev_and
theorem e_aaload {a : Nat} {i : Int32} : Ev G M d B rt Q (.aaload :: is) ls (.int i :: .ref a :: st) h = (((∃ ty, xis h a (.inl ty) ∧ (ty = .array .int ∨ ∃ c, ty = .object (G.2.2.2.2.1 c) ∧ c < 64)) ∧ vp_in i (xlen h a)) ∧ Ev G M d B rt Q is ls (xrf (xR h a i.toNatClampNeg) :: st) h) := (propext Ev_iff).trans Ev_and
theorem e_iastore {a : Nat} {i x : Int32} : Ev G M d B rt Q (.iastore :: is) ls (.int x :: .int i :: .ref a :: st) h = ((xis h a (.inl .int) ∧ vp_in i (xlen h a)) ∧ Ev G M d B rt Q is ls (st) (setI h a i.toNatClampNeg x)) := (propext Ev_iff).trans Ev_and
theorem e_lastore {a : Nat} {i : Int32} {x : Int64} : Ev G M d B rt Q (.lastore :: is) ls (.long x :: .int i :: .ref a :: st) h = ((xis h a (.inl .long) ∧ vp_in i (xlen h a)) ∧ Ev G M d B rt Q is ls (st) (setJ h a i.toNatClampNeg x)) := (propext Ev_iff).trans Ev_and
theorem e_aastore {a x : Nat} {i : Int32} : Ev G M d B rt Q (.aastore :: is) ls (.ref x :: .int i :: .ref a :: st) h = ((∃ c, xis h x (.inr c) ∧ xis h a (.inl (.object (G.2.2.2.2.1 c))) ∧ vp_in i (xlen h a)) ∧ Ev G M d B rt Q is ls (st) (setR h a i.toNatClampNeg (some x))) := (propext Ev_iff).trans Ev_and
theorem e_bastoreB {a : Nat} {i x : Int32} (hb : xis h a (.inl .byte)) : Ev G M d B rt Q (.bastore :: is) ls (.int x :: .int i :: .ref a :: st) h = (vp_in i (xlen h a) ∧ Ev G M d B rt Q is ls st (setI h a i.toNatClampNeg x.toInt8.toInt32)) := by
  refine propext (Ev_iff.trans ⟨fun ⟨n, ty, ⟨h1, _, h3⟩, e⟩ => ?_, fun ⟨h3, n, e⟩ => ⟨n, .byte, ⟨hb, Or.inl rfl, h3⟩, e⟩⟩)
  have q : FieldType.byte = ty := Sum.inl.inj (hb.2.symm.trans h1.2)
  subst q
  exact ⟨h3, n, e⟩
theorem e_bastoreZ {a : Nat} {i x : Int32} (hb : xis h a (.inl .boolean)) : Ev G M d B rt Q (.bastore :: is) ls (.int x :: .int i :: .ref a :: st) h = (vp_in i (xlen h a) ∧ Ev G M d B rt Q is ls st (setI h a i.toNatClampNeg (x &&& 1))) := by
  refine propext (Ev_iff.trans ⟨fun ⟨n, ty, ⟨h1, _, h3⟩, e⟩ => ?_, fun ⟨h3, n, e⟩ => ⟨n, .boolean, ⟨hb, Or.inr rfl, h3⟩, e⟩⟩)
  have q : FieldType.boolean = ty := Sum.inl.inj (hb.2.symm.trans h1.2)
  subst q
  exact ⟨h3, n, e⟩
theorem e_copy {a b : Nat} {n dp sp : Int32} : Ev G M d B rt Q (.caload :: is) ls (.int n :: .int dp :: .ref b :: .int sp :: .ref a :: st) h = ((xis h a (.inl .int) ∧ xis h b (.inl .int) ∧ ¬ sp < 0 ∧ ¬ dp < 0 ∧ ¬ n < 0 ∧ sp.toNatClampNeg + n.toNatClampNeg ≤ xlen h a ∧ dp.toNatClampNeg + n.toNatClampNeg ≤ xlen h b ∧ (st.map fun v => v.category).sum ≤ 8) ∧ Ev G M d B rt Q is ls (st) (rowI h b (va_cpy (xI h a) (xI h b) sp.toNatClampNeg dp.toNatClampNeg n.toNatClampNeg))) := (propext Ev_iff).trans Ev_and
theorem e_invokevirtual1 {m : Nat} {a0 : Nat}  (hn : G.2.1 m = 1) : Ev G M d B rt Q (.invokevirtual m :: is) ls (.ref a0 :: st) h = ((xis h a0 (.inr (G.2.2.1 m)) ∧ (st.map fun v => v.category).sum ≤ 8) ∧ Call G M d m [.ref a0] h (fun v h' => Ev G M d B rt Q is ls (v.toList ++ st) h')) := by
  refine (propext Ev_iff).trans ?_
  simp only [xstep, hn]
  show (∃ n, (xis h a0 (.inr (G.2.2.1 m)) ∧ 1 = 1 ∧ _) ∧ Call G M d m [.ref a0] h (fun v h' => ev G (Call G M d) B rt Q n is ls (v.toList ++ st) h')) = _
  rw [Ev_and, Ev_call (K := fun _ _ _ _ _ => True)]
  simp only [true_and, List.drop_succ_cons, List.drop_zero]
theorem e_invokevirtual2 {m : Nat} {a0 : Nat} {a1 : Value} (hn : G.2.1 m = 2) : Ev G M d B rt Q (.invokevirtual m :: is) ls (a1 :: .ref a0 :: st) h = ((xis h a0 (.inr (G.2.2.1 m)) ∧ (st.map fun v => v.category).sum ≤ 8) ∧ Call G M d m [.ref a0, a1] h (fun v h' => Ev G M d B rt Q is ls (v.toList ++ st) h')) := by
  refine (propext Ev_iff).trans ?_
  simp only [xstep, hn]
  show (∃ n, (xis h a0 (.inr (G.2.2.1 m)) ∧ 2 = 2 ∧ _) ∧ Call G M d m [.ref a0, a1] h (fun v h' => ev G (Call G M d) B rt Q n is ls (v.toList ++ st) h')) = _
  rw [Ev_and, Ev_call (K := fun _ _ _ _ _ => True)]
  simp only [true_and, List.drop_succ_cons, List.drop_zero]
theorem e_invokevirtual3 {m : Nat} {a0 : Nat} {a1 a2 : Value} (hn : G.2.1 m = 3) : Ev G M d B rt Q (.invokevirtual m :: is) ls (a2 :: a1 :: .ref a0 :: st) h = ((xis h a0 (.inr (G.2.2.1 m)) ∧ (st.map fun v => v.category).sum ≤ 8) ∧ Call G M d m [.ref a0, a1, a2] h (fun v h' => Ev G M d B rt Q is ls (v.toList ++ st) h')) := by
  refine (propext Ev_iff).trans ?_
  simp only [xstep, hn]
  show (∃ n, (xis h a0 (.inr (G.2.2.1 m)) ∧ 3 = 3 ∧ _) ∧ Call G M d m [.ref a0, a1, a2] h (fun v h' => ev G (Call G M d) B rt Q n is ls (v.toList ++ st) h')) = _
  rw [Ev_and, Ev_call (K := fun _ _ _ _ _ => True)]
  simp only [true_and, List.drop_succ_cons, List.drop_zero]
theorem e_invokevirtual4 {m : Nat} {a0 : Nat} {a1 a2 a3 : Value} (hn : G.2.1 m = 4) : Ev G M d B rt Q (.invokevirtual m :: is) ls (a3 :: a2 :: a1 :: .ref a0 :: st) h = ((xis h a0 (.inr (G.2.2.1 m)) ∧ (st.map fun v => v.category).sum ≤ 8) ∧ Call G M d m [.ref a0, a1, a2, a3] h (fun v h' => Ev G M d B rt Q is ls (v.toList ++ st) h')) := by
  refine (propext Ev_iff).trans ?_
  simp only [xstep, hn]
  show (∃ n, (xis h a0 (.inr (G.2.2.1 m)) ∧ 4 = 4 ∧ _) ∧ Call G M d m [.ref a0, a1, a2, a3] h (fun v h' => ev G (Call G M d) B rt Q n is ls (v.toList ++ st) h')) = _
  rw [Ev_and, Ev_call (K := fun _ _ _ _ _ => True)]
  simp only [true_and, List.drop_succ_cons, List.drop_zero]
theorem e_invokevirtual5 {m : Nat} {a0 : Nat} {a1 a2 a3 a4 : Value} (hn : G.2.1 m = 5) : Ev G M d B rt Q (.invokevirtual m :: is) ls (a4 :: a3 :: a2 :: a1 :: .ref a0 :: st) h = ((xis h a0 (.inr (G.2.2.1 m)) ∧ (st.map fun v => v.category).sum ≤ 8) ∧ Call G M d m [.ref a0, a1, a2, a3, a4] h (fun v h' => Ev G M d B rt Q is ls (v.toList ++ st) h')) := by
  refine (propext Ev_iff).trans ?_
  simp only [xstep, hn]
  show (∃ n, (xis h a0 (.inr (G.2.2.1 m)) ∧ 5 = 5 ∧ _) ∧ Call G M d m [.ref a0, a1, a2, a3, a4] h (fun v h' => ev G (Call G M d) B rt Q n is ls (v.toList ++ st) h')) = _
  rw [Ev_and, Ev_call (K := fun _ _ _ _ _ => True)]
  simp only [true_and, List.drop_succ_cons, List.drop_zero]
theorem e_invokevirtual6 {m : Nat} {a0 : Nat} {a1 a2 a3 a4 a5 : Value} (hn : G.2.1 m = 6) : Ev G M d B rt Q (.invokevirtual m :: is) ls (a5 :: a4 :: a3 :: a2 :: a1 :: .ref a0 :: st) h = ((xis h a0 (.inr (G.2.2.1 m)) ∧ (st.map fun v => v.category).sum ≤ 8) ∧ Call G M d m [.ref a0, a1, a2, a3, a4, a5] h (fun v h' => Ev G M d B rt Q is ls (v.toList ++ st) h')) := by
  refine (propext Ev_iff).trans ?_
  simp only [xstep, hn]
  show (∃ n, (xis h a0 (.inr (G.2.2.1 m)) ∧ 6 = 6 ∧ _) ∧ Call G M d m [.ref a0, a1, a2, a3, a4, a5] h (fun v h' => ev G (Call G M d) B rt Q n is ls (v.toList ++ st) h')) = _
  rw [Ev_and, Ev_call (K := fun _ _ _ _ _ => True)]
  simp only [true_and, List.drop_succ_cons, List.drop_zero]
theorem e_invokevirtual7 {m : Nat} {a0 : Nat} {a1 a2 a3 a4 a5 a6 : Value} (hn : G.2.1 m = 7) : Ev G M d B rt Q (.invokevirtual m :: is) ls (a6 :: a5 :: a4 :: a3 :: a2 :: a1 :: .ref a0 :: st) h = ((xis h a0 (.inr (G.2.2.1 m)) ∧ (st.map fun v => v.category).sum ≤ 8) ∧ Call G M d m [.ref a0, a1, a2, a3, a4, a5, a6] h (fun v h' => Ev G M d B rt Q is ls (v.toList ++ st) h')) := by
  refine (propext Ev_iff).trans ?_
  simp only [xstep, hn]
  show (∃ n, (xis h a0 (.inr (G.2.2.1 m)) ∧ 7 = 7 ∧ _) ∧ Call G M d m [.ref a0, a1, a2, a3, a4, a5, a6] h (fun v h' => ev G (Call G M d) B rt Q n is ls (v.toList ++ st) h')) = _
  rw [Ev_and, Ev_call (K := fun _ _ _ _ _ => True)]
  simp only [true_and, List.drop_succ_cons, List.drop_zero]
theorem e_invokespecial1 {m : Nat} {a0 : Nat}  (hn : G.2.1 m = 1) : Ev G M d B rt Q (.invokespecial m :: is) ls (.ref a0 :: st) h = (((st.map fun v => v.category).sum ≤ 8) ∧ Call G M d m [.ref a0] h (fun v h' => Ev G M d B rt Q is ls (v.toList ++ st) h')) := by
  refine (propext Ev_iff).trans ?_
  simp only [xstep, hn]
  show (∃ n, (1 = 1 ∧ _) ∧ Call G M d m [.ref a0] h (fun v h' => ev G (Call G M d) B rt Q n is ls (v.toList ++ st) h')) = _
  rw [Ev_and, Ev_call (K := fun _ _ _ _ _ => True)]
  simp only [true_and, List.drop_succ_cons, List.drop_zero]
theorem e_invokespecial2 {m : Nat} {a0 : Nat} {a1 : Value} (hn : G.2.1 m = 2) : Ev G M d B rt Q (.invokespecial m :: is) ls (a1 :: .ref a0 :: st) h = (((st.map fun v => v.category).sum ≤ 8) ∧ Call G M d m [.ref a0, a1] h (fun v h' => Ev G M d B rt Q is ls (v.toList ++ st) h')) := by
  refine (propext Ev_iff).trans ?_
  simp only [xstep, hn]
  show (∃ n, (2 = 2 ∧ _) ∧ Call G M d m [.ref a0, a1] h (fun v h' => ev G (Call G M d) B rt Q n is ls (v.toList ++ st) h')) = _
  rw [Ev_and, Ev_call (K := fun _ _ _ _ _ => True)]
  simp only [true_and, List.drop_succ_cons, List.drop_zero]
theorem e_invokespecial3 {m : Nat} {a0 : Nat} {a1 a2 : Value} (hn : G.2.1 m = 3) : Ev G M d B rt Q (.invokespecial m :: is) ls (a2 :: a1 :: .ref a0 :: st) h = (((st.map fun v => v.category).sum ≤ 8) ∧ Call G M d m [.ref a0, a1, a2] h (fun v h' => Ev G M d B rt Q is ls (v.toList ++ st) h')) := by
  refine (propext Ev_iff).trans ?_
  simp only [xstep, hn]
  show (∃ n, (3 = 3 ∧ _) ∧ Call G M d m [.ref a0, a1, a2] h (fun v h' => ev G (Call G M d) B rt Q n is ls (v.toList ++ st) h')) = _
  rw [Ev_and, Ev_call (K := fun _ _ _ _ _ => True)]
  simp only [true_and, List.drop_succ_cons, List.drop_zero]
theorem e_invokespecial4 {m : Nat} {a0 : Nat} {a1 a2 a3 : Value} (hn : G.2.1 m = 4) : Ev G M d B rt Q (.invokespecial m :: is) ls (a3 :: a2 :: a1 :: .ref a0 :: st) h = (((st.map fun v => v.category).sum ≤ 8) ∧ Call G M d m [.ref a0, a1, a2, a3] h (fun v h' => Ev G M d B rt Q is ls (v.toList ++ st) h')) := by
  refine (propext Ev_iff).trans ?_
  simp only [xstep, hn]
  show (∃ n, (4 = 4 ∧ _) ∧ Call G M d m [.ref a0, a1, a2, a3] h (fun v h' => ev G (Call G M d) B rt Q n is ls (v.toList ++ st) h')) = _
  rw [Ev_and, Ev_call (K := fun _ _ _ _ _ => True)]
  simp only [true_and, List.drop_succ_cons, List.drop_zero]
theorem e_invokespecial5 {m : Nat} {a0 : Nat} {a1 a2 a3 a4 : Value} (hn : G.2.1 m = 5) : Ev G M d B rt Q (.invokespecial m :: is) ls (a4 :: a3 :: a2 :: a1 :: .ref a0 :: st) h = (((st.map fun v => v.category).sum ≤ 8) ∧ Call G M d m [.ref a0, a1, a2, a3, a4] h (fun v h' => Ev G M d B rt Q is ls (v.toList ++ st) h')) := by
  refine (propext Ev_iff).trans ?_
  simp only [xstep, hn]
  show (∃ n, (5 = 5 ∧ _) ∧ Call G M d m [.ref a0, a1, a2, a3, a4] h (fun v h' => ev G (Call G M d) B rt Q n is ls (v.toList ++ st) h')) = _
  rw [Ev_and, Ev_call (K := fun _ _ _ _ _ => True)]
  simp only [true_and, List.drop_succ_cons, List.drop_zero]
theorem e_invokespecial6 {m : Nat} {a0 : Nat} {a1 a2 a3 a4 a5 : Value} (hn : G.2.1 m = 6) : Ev G M d B rt Q (.invokespecial m :: is) ls (a5 :: a4 :: a3 :: a2 :: a1 :: .ref a0 :: st) h = (((st.map fun v => v.category).sum ≤ 8) ∧ Call G M d m [.ref a0, a1, a2, a3, a4, a5] h (fun v h' => Ev G M d B rt Q is ls (v.toList ++ st) h')) := by
  refine (propext Ev_iff).trans ?_
  simp only [xstep, hn]
  show (∃ n, (6 = 6 ∧ _) ∧ Call G M d m [.ref a0, a1, a2, a3, a4, a5] h (fun v h' => ev G (Call G M d) B rt Q n is ls (v.toList ++ st) h')) = _
  rw [Ev_and, Ev_call (K := fun _ _ _ _ _ => True)]
  simp only [true_and, List.drop_succ_cons, List.drop_zero]
theorem e_invokespecial7 {m : Nat} {a0 : Nat} {a1 a2 a3 a4 a5 a6 : Value} (hn : G.2.1 m = 7) : Ev G M d B rt Q (.invokespecial m :: is) ls (a6 :: a5 :: a4 :: a3 :: a2 :: a1 :: .ref a0 :: st) h = (((st.map fun v => v.category).sum ≤ 8) ∧ Call G M d m [.ref a0, a1, a2, a3, a4, a5, a6] h (fun v h' => Ev G M d B rt Q is ls (v.toList ++ st) h')) := by
  refine (propext Ev_iff).trans ?_
  simp only [xstep, hn]
  show (∃ n, (7 = 7 ∧ _) ∧ Call G M d m [.ref a0, a1, a2, a3, a4, a5, a6] h (fun v h' => ev G (Call G M d) B rt Q n is ls (v.toList ++ st) h')) = _
  rw [Ev_and, Ev_call (K := fun _ _ _ _ _ => True)]
  simp only [true_and, List.drop_succ_cons, List.drop_zero]
theorem e_invokestatic0 {m : Nat}  (hn : G.2.1 m = 0) : Ev G M d B rt Q (.invokestatic m :: is) ls (st) h = (((st.map fun v => v.category).sum ≤ 8) ∧ Call G M d m [] h (fun v h' => Ev G M d B rt Q is ls (v.toList ++ st) h')) := by
  refine (propext Ev_iff).trans ?_
  simp only [xstep, hn]
  show (∃ n, (0 = 0 ∧ _) ∧ Call G M d m [] h (fun v h' => ev G (Call G M d) B rt Q n is ls (v.toList ++ st) h')) = _
  rw [Ev_and, Ev_call (K := fun _ _ _ _ _ => True)]
  simp only [true_and, List.drop_succ_cons, List.drop_zero]
theorem e_invokestatic1 {m : Nat} {a0 : Value} (hn : G.2.1 m = 1) : Ev G M d B rt Q (.invokestatic m :: is) ls (a0 :: st) h = (((st.map fun v => v.category).sum ≤ 8) ∧ Call G M d m [a0] h (fun v h' => Ev G M d B rt Q is ls (v.toList ++ st) h')) := by
  refine (propext Ev_iff).trans ?_
  simp only [xstep, hn]
  show (∃ n, (1 = 1 ∧ _) ∧ Call G M d m [a0] h (fun v h' => ev G (Call G M d) B rt Q n is ls (v.toList ++ st) h')) = _
  rw [Ev_and, Ev_call (K := fun _ _ _ _ _ => True)]
  simp only [true_and, List.drop_succ_cons, List.drop_zero]
theorem e_invokestatic2 {m : Nat} {a0 a1 : Value} (hn : G.2.1 m = 2) : Ev G M d B rt Q (.invokestatic m :: is) ls (a1 :: a0 :: st) h = (((st.map fun v => v.category).sum ≤ 8) ∧ Call G M d m [a0, a1] h (fun v h' => Ev G M d B rt Q is ls (v.toList ++ st) h')) := by
  refine (propext Ev_iff).trans ?_
  simp only [xstep, hn]
  show (∃ n, (2 = 2 ∧ _) ∧ Call G M d m [a0, a1] h (fun v h' => ev G (Call G M d) B rt Q n is ls (v.toList ++ st) h')) = _
  rw [Ev_and, Ev_call (K := fun _ _ _ _ _ => True)]
  simp only [true_and, List.drop_succ_cons, List.drop_zero]
theorem e_invokestatic3 {m : Nat} {a0 a1 a2 : Value} (hn : G.2.1 m = 3) : Ev G M d B rt Q (.invokestatic m :: is) ls (a2 :: a1 :: a0 :: st) h = (((st.map fun v => v.category).sum ≤ 8) ∧ Call G M d m [a0, a1, a2] h (fun v h' => Ev G M d B rt Q is ls (v.toList ++ st) h')) := by
  refine (propext Ev_iff).trans ?_
  simp only [xstep, hn]
  show (∃ n, (3 = 3 ∧ _) ∧ Call G M d m [a0, a1, a2] h (fun v h' => ev G (Call G M d) B rt Q n is ls (v.toList ++ st) h')) = _
  rw [Ev_and, Ev_call (K := fun _ _ _ _ _ => True)]
  simp only [true_and, List.drop_succ_cons, List.drop_zero]
theorem e_invokestatic4 {m : Nat} {a0 a1 a2 a3 : Value} (hn : G.2.1 m = 4) : Ev G M d B rt Q (.invokestatic m :: is) ls (a3 :: a2 :: a1 :: a0 :: st) h = (((st.map fun v => v.category).sum ≤ 8) ∧ Call G M d m [a0, a1, a2, a3] h (fun v h' => Ev G M d B rt Q is ls (v.toList ++ st) h')) := by
  refine (propext Ev_iff).trans ?_
  simp only [xstep, hn]
  show (∃ n, (4 = 4 ∧ _) ∧ Call G M d m [a0, a1, a2, a3] h (fun v h' => ev G (Call G M d) B rt Q n is ls (v.toList ++ st) h')) = _
  rw [Ev_and, Ev_call (K := fun _ _ _ _ _ => True)]
  simp only [true_and, List.drop_succ_cons, List.drop_zero]
theorem e_invokestatic5 {m : Nat} {a0 a1 a2 a3 a4 : Value} (hn : G.2.1 m = 5) : Ev G M d B rt Q (.invokestatic m :: is) ls (a4 :: a3 :: a2 :: a1 :: a0 :: st) h = (((st.map fun v => v.category).sum ≤ 8) ∧ Call G M d m [a0, a1, a2, a3, a4] h (fun v h' => Ev G M d B rt Q is ls (v.toList ++ st) h')) := by
  refine (propext Ev_iff).trans ?_
  simp only [xstep, hn]
  show (∃ n, (5 = 5 ∧ _) ∧ Call G M d m [a0, a1, a2, a3, a4] h (fun v h' => ev G (Call G M d) B rt Q n is ls (v.toList ++ st) h')) = _
  rw [Ev_and, Ev_call (K := fun _ _ _ _ _ => True)]
  simp only [true_and, List.drop_succ_cons, List.drop_zero]
theorem e_invokestatic6 {m : Nat} {a0 a1 a2 a3 a4 a5 : Value} (hn : G.2.1 m = 6) : Ev G M d B rt Q (.invokestatic m :: is) ls (a5 :: a4 :: a3 :: a2 :: a1 :: a0 :: st) h = (((st.map fun v => v.category).sum ≤ 8) ∧ Call G M d m [a0, a1, a2, a3, a4, a5] h (fun v h' => Ev G M d B rt Q is ls (v.toList ++ st) h')) := by
  refine (propext Ev_iff).trans ?_
  simp only [xstep, hn]
  show (∃ n, (6 = 6 ∧ _) ∧ Call G M d m [a0, a1, a2, a3, a4, a5] h (fun v h' => ev G (Call G M d) B rt Q n is ls (v.toList ++ st) h')) = _
  rw [Ev_and, Ev_call (K := fun _ _ _ _ _ => True)]
  simp only [true_and, List.drop_succ_cons, List.drop_zero]
theorem e_invokestatic7 {m : Nat} {a0 a1 a2 a3 a4 a5 a6 : Value} (hn : G.2.1 m = 7) : Ev G M d B rt Q (.invokestatic m :: is) ls (a6 :: a5 :: a4 :: a3 :: a2 :: a1 :: a0 :: st) h = (((st.map fun v => v.category).sum ≤ 8) ∧ Call G M d m [a0, a1, a2, a3, a4, a5, a6] h (fun v h' => Ev G M d B rt Q is ls (v.toList ++ st) h')) := by
  refine (propext Ev_iff).trans ?_
  simp only [xstep, hn]
  show (∃ n, (7 = 7 ∧ _) ∧ Call G M d m [a0, a1, a2, a3, a4, a5, a6] h (fun v h' => ev G (Call G M d) B rt Q n is ls (v.toList ++ st) h')) = _
  rw [Ev_and, Ev_call (K := fun _ _ _ _ _ => True)]
  simp only [true_and, List.drop_succ_cons, List.drop_zero]
theorem e_ireturn {x : Int32} : Ev G M d B rt Q (.ireturn :: is) ls [.int x] h = ((∃ ty, rt = some ty ∧ xfit ty x) ∧ Q (some (.int x)) h) := propext (Ev_iff.trans ⟨fun ⟨_, e⟩ => e, fun e => ⟨0, e⟩⟩)
theorem e_lreturn {x : Int64} : Ev G M d B rt Q (.lreturn :: is) ls [.long x] h = (rt = some .long ∧ Q (some (.long x)) h) := propext (Ev_iff.trans ⟨fun ⟨_, e⟩ => e, fun e => ⟨0, e⟩⟩)
theorem e_areturn {x : Nat} : Ev G M d B rt Q (.areturn :: is) ls [.ref x] h = ((∃ ty, rt = some ty ∧ ((∃ n, ty = .object n) ∨ ∃ t, ty = .array t)) ∧ Q (some (.ref x)) h) := propext (Ev_iff.trans ⟨fun ⟨_, e⟩ => e, fun e => ⟨0, e⟩⟩)
theorem e_areturnN : Ev G M d B rt Q (.areturn :: is) ls [.null] h = ((∃ ty, rt = some ty ∧ ((∃ n, ty = .object n) ∨ ∃ t, ty = .array t)) ∧ Q (some .null) h) := propext (Ev_iff.trans ⟨fun ⟨_, e⟩ => e, fun e => ⟨0, e⟩⟩)
theorem e_return : Ev G M d B rt Q (.return_ :: is) ls [] h = (rt = none ∧ Q none h) := propext (Ev_iff.trans ⟨fun ⟨_, e⟩ => e, fun e => ⟨0, e⟩⟩)
end EV
