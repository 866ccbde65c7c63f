section EV
variable {G : xG} {M : xD} {d : Nat} {B : Nat → List Instr} {rt : Option FieldType} {Q : xQ} {is : List Instr} {ls : xL} {st : List Value} {h : xH}
/-- it comes to an end, with Q -/
def Ev (G : xG) (M : xD) (d : Nat) (B : Nat → List Instr) (rt : Option FieldType) (Q : xQ) (is : List Instr) (ls : xL) (st : List Value) (h : xH) : Prop := ∃ n, ev G (Call G M d) B rt Q n is ls st h
theorem Ev_iff : Ev G M d B rt Q is ls st h ↔ ∃ n, xstep G (Call G M d) B rt Q (ev G (Call G M d) B rt Q n) is ls st h :=
  ⟨fun ⟨n, e⟩ => match n, e with
    | 0, e => absurd e id
    | n + 1, e => ⟨n, e⟩, fun ⟨n, e⟩ => ⟨n + 1, e⟩⟩
theorem Ev_call {m : Nat} {as : List Value} {K : List Value → xH → List Instr → xL → List Value → Prop} {is' : List Instr} {ls' : xL} {f : Option Value → List Value} : (∃ n, Call G M d m as h (fun v h' => ev G (Call G M d) B rt Q n is' ls' (f v) h')) = Call G M d m as h (fun v h' => Ev G M d B rt Q is' ls' (f v) h') := by
  refine propext ⟨fun ⟨n, e⟩ => ?_, fun e => ?_⟩
  · obtain ⟨v, h', q, -, r⟩ := Call_dt G M d m as h _ e
    exact r _ ⟨n, q⟩
  · obtain ⟨v, h', ⟨n, q⟩, -, r⟩ := Call_dt G M d m as h _ e
    exact ⟨n, r _ q⟩
theorem Ev_and {A : Prop} {P : Nat → Prop} : (∃ n, A ∧ P n) = (A ∧ ∃ n, P n) := propext ⟨fun ⟨n, a, p⟩ => ⟨a, n, p⟩, fun ⟨a, n, p⟩ => ⟨n, a, p⟩⟩
theorem Call_succ {m : Nat} {as : List Value} : Call G M (d + 1) m as h Q = ((xent as).length ≤ (M m).2.2 ∧ Ev G M d (M m).1 (M m).2.1 Q ((M m).1 0) (xentry as (M m).2.2) [] h) := rfl

theorem e_iconst {v : Int} : Ev G M d B rt Q (.iconst v :: is) ls (st) h = Ev G M d B rt Q is ls (.int (Int32.ofInt v) :: st) h := propext Ev_iff
theorem e_lconst {v : Int} : Ev G M d B rt Q (.sipush v :: is) ls (st) h = Ev G M d B rt Q is ls (.long (Int64.ofInt v) :: st) h := propext Ev_iff
theorem e_null  : Ev G M d B rt Q (.aconst_null :: is) ls (st) h = Ev G M d B rt Q is ls (.null :: st) h := propext Ev_iff
theorem e_ldc {u : Nat} : Ev G M d B rt Q (.ldc u :: is) ls (st) h = Ev G M d B rt Q is ls (.float (UInt32.ofNat u) :: st) h := propext Ev_iff
theorem e_iload0i {x : Int32}  : Ev G M d B rt Q (.iload 0 :: is) (some (.int x) :: ls) st h = Ev G M d B rt Q is (some (.int x) :: ls) (.int x :: st) h := propext Ev_iff
theorem e_iload1i {x : Int32} {v0 : Option Value} : Ev G M d B rt Q (.iload 1 :: is) (v0 :: some (.int x) :: ls) st h = Ev G M d B rt Q is (v0 :: some (.int x) :: ls) (.int x :: st) h := propext Ev_iff
theorem e_iload2i {x : Int32} {v0 v1 : Option Value} : Ev G M d B rt Q (.iload 2 :: is) (v0 :: v1 :: some (.int x) :: ls) st h = Ev G M d B rt Q is (v0 :: v1 :: some (.int x) :: ls) (.int x :: st) h := propext Ev_iff
theorem e_iload3i {x : Int32} {v0 v1 v2 : Option Value} : Ev G M d B rt Q (.iload 3 :: is) (v0 :: v1 :: v2 :: some (.int x) :: ls) st h = Ev G M d B rt Q is (v0 :: v1 :: v2 :: some (.int x) :: ls) (.int x :: st) h := propext Ev_iff
theorem e_iload4i {x : Int32} {v0 v1 v2 v3 : Option Value} : Ev G M d B rt Q (.iload 4 :: is) (v0 :: v1 :: v2 :: v3 :: some (.int x) :: ls) st h = Ev G M d B rt Q is (v0 :: v1 :: v2 :: v3 :: some (.int x) :: ls) (.int x :: st) h := propext Ev_iff
theorem e_iload5i {x : Int32} {v0 v1 v2 v3 v4 : Option Value} : Ev G M d B rt Q (.iload 5 :: is) (v0 :: v1 :: v2 :: v3 :: v4 :: some (.int x) :: ls) st h = Ev G M d B rt Q is (v0 :: v1 :: v2 :: v3 :: v4 :: some (.int x) :: ls) (.int x :: st) h := propext Ev_iff
theorem e_iload6i {x : Int32} {v0 v1 v2 v3 v4 v5 : Option Value} : Ev G M d B rt Q (.iload 6 :: is) (v0 :: v1 :: v2 :: v3 :: v4 :: v5 :: some (.int x) :: ls) st h = Ev G M d B rt Q is (v0 :: v1 :: v2 :: v3 :: v4 :: v5 :: some (.int x) :: ls) (.int x :: st) h := propext Ev_iff
theorem e_iload7i {x : Int32} {v0 v1 v2 v3 v4 v5 v6 : Option Value} : Ev G M d B rt Q (.iload 7 :: is) (v0 :: v1 :: v2 :: v3 :: v4 :: v5 :: v6 :: some (.int x) :: ls) st h = Ev G M d B rt Q is (v0 :: v1 :: v2 :: v3 :: v4 :: v5 :: v6 :: some (.int x) :: ls) (.int x :: st) h := propext Ev_iff
theorem e_iload8i {x : Int32} {v0 v1 v2 v3 v4 v5 v6 v7 : Option Value} : Ev G M d B rt Q (.iload 8 :: is) (v0 :: v1 :: v2 :: v3 :: v4 :: v5 :: v6 :: v7 :: some (.int x) :: ls) st h = Ev G M d B rt Q is (v0 :: v1 :: v2 :: v3 :: v4 :: v5 :: v6 :: v7 :: some (.int x) :: ls) (.int x :: st) h := propext Ev_iff
theorem e_iload9i {x : Int32} {v0 v1 v2 v3 v4 v5 v6 v7 v8 : Option Value} : Ev G M d B rt Q (.iload 9 :: is) (v0 :: v1 :: v2 :: v3 :: v4 :: v5 :: v6 :: v7 :: v8 :: some (.int x) :: ls) st h = Ev G M d B rt Q is (v0 :: v1 :: v2 :: v3 :: v4 :: v5 :: v6 :: v7 :: v8 :: some (.int x) :: ls) (.int x :: st) h := propext Ev_iff
theorem e_iload10i {x : Int32} {v0 v1 v2 v3 v4 v5 v6 v7 v8 v9 : Option Value} : Ev G M d B rt Q (.iload 10 :: is) (v0 :: v1 :: v2 :: v3 :: v4 :: v5 :: v6 :: v7 :: v8 :: v9 :: some (.int x) :: ls) st h = Ev G M d B rt Q is (v0 :: v1 :: v2 :: v3 :: v4 :: v5 :: v6 :: v7 :: v8 :: v9 :: some (.int x) :: ls) (.int x :: st) h := propext Ev_iff
theorem e_lload0l {x : Int64}  : Ev G M d B rt Q (.lload 0 :: is) (some (.long x) :: ls) st h = Ev G M d B rt Q is (some (.long x) :: ls) (.long x :: st) h := propext Ev_iff
theorem e_lload1l {x : Int64} {v0 : Option Value} : Ev G M d B rt Q (.lload 1 :: is) (v0 :: some (.long x) :: ls) st h = Ev G M d B rt Q is (v0 :: some (.long x) :: ls) (.long x :: st) h := propext Ev_iff
theorem e_lload2l {x : Int64} {v0 v1 : Option Value} : Ev G M d B rt Q (.lload 2 :: is) (v0 :: v1 :: some (.long x) :: ls) st h = Ev G M d B rt Q is (v0 :: v1 :: some (.long x) :: ls) (.long x :: st) h := propext Ev_iff
theorem e_lload3l {x : Int64} {v0 v1 v2 : Option Value} : Ev G M d B rt Q (.lload 3 :: is) (v0 :: v1 :: v2 :: some (.long x) :: ls) st h = Ev G M d B rt Q is (v0 :: v1 :: v2 :: some (.long x) :: ls) (.long x :: st) h := propext Ev_iff
theorem e_lload4l {x : Int64} {v0 v1 v2 v3 : Option Value} : Ev G M d B rt Q (.lload 4 :: is) (v0 :: v1 :: v2 :: v3 :: some (.long x) :: ls) st h = Ev G M d B rt Q is (v0 :: v1 :: v2 :: v3 :: some (.long x) :: ls) (.long x :: st) h := propext Ev_iff
theorem e_lload5l {x : Int64} {v0 v1 v2 v3 v4 : Option Value} : Ev G M d B rt Q (.lload 5 :: is) (v0 :: v1 :: v2 :: v3 :: v4 :: some (.long x) :: ls) st h = Ev G M d B rt Q is (v0 :: v1 :: v2 :: v3 :: v4 :: some (.long x) :: ls) (.long x :: st) h := propext Ev_iff
theorem e_lload6l {x : Int64} {v0 v1 v2 v3 v4 v5 : Option Value} : Ev G M d B rt Q (.lload 6 :: is) (v0 :: v1 :: v2 :: v3 :: v4 :: v5 :: some (.long x) :: ls) st h = Ev G M d B rt Q is (v0 :: v1 :: v2 :: v3 :: v4 :: v5 :: some (.long x) :: ls) (.long x :: st) h := propext Ev_iff
theorem e_lload7l {x : Int64} {v0 v1 v2 v3 v4 v5 v6 : Option Value} : Ev G M d B rt Q (.lload 7 :: is) (v0 :: v1 :: v2 :: v3 :: v4 :: v5 :: v6 :: some (.long x) :: ls) st h = Ev G M d B rt Q is (v0 :: v1 :: v2 :: v3 :: v4 :: v5 :: v6 :: some (.long x) :: ls) (.long x :: st) h := propext Ev_iff
theorem e_lload8l {x : Int64} {v0 v1 v2 v3 v4 v5 v6 v7 : Option Value} : Ev G M d B rt Q (.lload 8 :: is) (v0 :: v1 :: v2 :: v3 :: v4 :: v5 :: v6 :: v7 :: some (.long x) :: ls) st h = Ev G M d B rt Q is (v0 :: v1 :: v2 :: v3 :: v4 :: v5 :: v6 :: v7 :: some (.long x) :: ls) (.long x :: st) h := propext Ev_iff
theorem e_lload9l {x : Int64} {v0 v1 v2 v3 v4 v5 v6 v7 v8 : Option Value} : Ev G M d B rt Q (.lload 9 :: is) (v0 :: v1 :: v2 :: v3 :: v4 :: v5 :: v6 :: v7 :: v8 :: some (.long x) :: ls) st h = Ev G M d B rt Q is (v0 :: v1 :: v2 :: v3 :: v4 :: v5 :: v6 :: v7 :: v8 :: some (.long x) :: ls) (.long x :: st) h := propext Ev_iff
theorem e_lload10l {x : Int64} {v0 v1 v2 v3 v4 v5 v6 v7 v8 v9 : Option Value} : Ev G M d B rt Q (.lload 10 :: is) (v0 :: v1 :: v2 :: v3 :: v4 :: v5 :: v6 :: v7 :: v8 :: v9 :: some (.long x) :: ls) st h = Ev G M d B rt Q is (v0 :: v1 :: v2 :: v3 :: v4 :: v5 :: v6 :: v7 :: v8 :: v9 :: some (.long x) :: ls) (.long x :: st) h := propext Ev_iff
theorem e_aload0r {x : Nat}  : Ev G M d B rt Q (.aload 0 :: is) (some (.ref x) :: ls) st h = Ev G M d B rt Q is (some (.ref x) :: ls) (.ref x :: st) h := propext Ev_iff
theorem e_aload1r {x : Nat} {v0 : Option Value} : Ev G M d B rt Q (.aload 1 :: is) (v0 :: some (.ref x) :: ls) st h = Ev G M d B rt Q is (v0 :: some (.ref x) :: ls) (.ref x :: st) h := propext Ev_iff
theorem e_aload2r {x : Nat} {v0 v1 : Option Value} : Ev G M d B rt Q (.aload 2 :: is) (v0 :: v1 :: some (.ref x) :: ls) st h = Ev G M d B rt Q is (v0 :: v1 :: some (.ref x) :: ls) (.ref x :: st) h := propext Ev_iff
theorem e_aload3r {x : Nat} {v0 v1 v2 : Option Value} : Ev G M d B rt Q (.aload 3 :: is) (v0 :: v1 :: v2 :: some (.ref x) :: ls) st h = Ev G M d B rt Q is (v0 :: v1 :: v2 :: some (.ref x) :: ls) (.ref x :: st) h := propext Ev_iff
theorem e_aload4r {x : Nat} {v0 v1 v2 v3 : Option Value} : Ev G M d B rt Q (.aload 4 :: is) (v0 :: v1 :: v2 :: v3 :: some (.ref x) :: ls) st h = Ev G M d B rt Q is (v0 :: v1 :: v2 :: v3 :: some (.ref x) :: ls) (.ref x :: st) h := propext Ev_iff
theorem e_aload5r {x : Nat} {v0 v1 v2 v3 v4 : Option Value} : Ev G M d B rt Q (.aload 5 :: is) (v0 :: v1 :: v2 :: v3 :: v4 :: some (.ref x) :: ls) st h = Ev G M d B rt Q is (v0 :: v1 :: v2 :: v3 :: v4 :: some (.ref x) :: ls) (.ref x :: st) h := propext Ev_iff
theorem e_aload6r {x : Nat} {v0 v1 v2 v3 v4 v5 : Option Value} : Ev G M d B rt Q (.aload 6 :: is) (v0 :: v1 :: v2 :: v3 :: v4 :: v5 :: some (.ref x) :: ls) st h = Ev G M d B rt Q is (v0 :: v1 :: v2 :: v3 :: v4 :: v5 :: some (.ref x) :: ls) (.ref x :: st) h := propext Ev_iff
theorem e_aload7r {x : Nat} {v0 v1 v2 v3 v4 v5 v6 : Option Value} : Ev G M d B rt Q (.aload 7 :: is) (v0 :: v1 :: v2 :: v3 :: v4 :: v5 :: v6 :: some (.ref x) :: ls) st h = Ev G M d B rt Q is (v0 :: v1 :: v2 :: v3 :: v4 :: v5 :: v6 :: some (.ref x) :: ls) (.ref x :: st) h := propext Ev_iff
theorem e_aload8r {x : Nat} {v0 v1 v2 v3 v4 v5 v6 v7 : Option Value} : Ev G M d B rt Q (.aload 8 :: is) (v0 :: v1 :: v2 :: v3 :: v4 :: v5 :: v6 :: v7 :: some (.ref x) :: ls) st h = Ev G M d B rt Q is (v0 :: v1 :: v2 :: v3 :: v4 :: v5 :: v6 :: v7 :: some (.ref x) :: ls) (.ref x :: st) h := propext Ev_iff
theorem e_aload9r {x : Nat} {v0 v1 v2 v3 v4 v5 v6 v7 v8 : Option Value} : Ev G M d B rt Q (.aload 9 :: is) (v0 :: v1 :: v2 :: v3 :: v4 :: v5 :: v6 :: v7 :: v8 :: some (.ref x) :: ls) st h = Ev G M d B rt Q is (v0 :: v1 :: v2 :: v3 :: v4 :: v5 :: v6 :: v7 :: v8 :: some (.ref x) :: ls) (.ref x :: st) h := propext Ev_iff
theorem e_aload10r {x : Nat} {v0 v1 v2 v3 v4 v5 v6 v7 v8 v9 : Option Value} : Ev G M d B rt Q (.aload 10 :: is) (v0 :: v1 :: v2 :: v3 :: v4 :: v5 :: v6 :: v7 :: v8 :: v9 :: some (.ref x) :: ls) st h = Ev G M d B rt Q is (v0 :: v1 :: v2 :: v3 :: v4 :: v5 :: v6 :: v7 :: v8 :: v9 :: some (.ref x) :: ls) (.ref x :: st) h := propext Ev_iff
theorem e_aload0n   : Ev G M d B rt Q (.aload 0 :: is) (some .null :: ls) st h = Ev G M d B rt Q is (some .null :: ls) (.null :: st) h := propext Ev_iff
theorem e_aload1n  {v0 : Option Value} : Ev G M d B rt Q (.aload 1 :: is) (v0 :: some .null :: ls) st h = Ev G M d B rt Q is (v0 :: some .null :: ls) (.null :: st) h := propext Ev_iff
theorem e_aload2n  {v0 v1 : Option Value} : Ev G M d B rt Q (.aload 2 :: is) (v0 :: v1 :: some .null :: ls) st h = Ev G M d B rt Q is (v0 :: v1 :: some .null :: ls) (.null :: st) h := propext Ev_iff
theorem e_aload3n  {v0 v1 v2 : Option Value} : Ev G M d B rt Q (.aload 3 :: is) (v0 :: v1 :: v2 :: some .null :: ls) st h = Ev G M d B rt Q is (v0 :: v1 :: v2 :: some .null :: ls) (.null :: st) h := propext Ev_iff
theorem e_aload4n  {v0 v1 v2 v3 : Option Value} : Ev G M d B rt Q (.aload 4 :: is) (v0 :: v1 :: v2 :: v3 :: some .null :: ls) st h = Ev G M d B rt Q is (v0 :: v1 :: v2 :: v3 :: some .null :: ls) (.null :: st) h := propext Ev_iff
theorem e_aload5n  {v0 v1 v2 v3 v4 : Option Value} : Ev G M d B rt Q (.aload 5 :: is) (v0 :: v1 :: v2 :: v3 :: v4 :: some .null :: ls) st h = Ev G M d B rt Q is (v0 :: v1 :: v2 :: v3 :: v4 :: some .null :: ls) (.null :: st) h := propext Ev_iff
theorem e_aload6n  {v0 v1 v2 v3 v4 v5 : Option Value} : Ev G M d B rt Q (.aload 6 :: is) (v0 :: v1 :: v2 :: v3 :: v4 :: v5 :: some .null :: ls) st h = Ev G M d B rt Q is (v0 :: v1 :: v2 :: v3 :: v4 :: v5 :: some .null :: ls) (.null :: st) h := propext Ev_iff
theorem e_aload7n  {v0 v1 v2 v3 v4 v5 v6 : Option Value} : Ev G M d B rt Q (.aload 7 :: is) (v0 :: v1 :: v2 :: v3 :: v4 :: v5 :: v6 :: some .null :: ls) st h = Ev G M d B rt Q is (v0 :: v1 :: v2 :: v3 :: v4 :: v5 :: v6 :: some .null :: ls) (.null :: st) h := propext Ev_iff
theorem e_aload8n  {v0 v1 v2 v3 v4 v5 v6 v7 : Option Value} : Ev G M d B rt Q (.aload 8 :: is) (v0 :: v1 :: v2 :: v3 :: v4 :: v5 :: v6 :: v7 :: some .null :: ls) st h = Ev G M d B rt Q is (v0 :: v1 :: v2 :: v3 :: v4 :: v5 :: v6 :: v7 :: some .null :: ls) (.null :: st) h := propext Ev_iff
theorem e_aload9n  {v0 v1 v2 v3 v4 v5 v6 v7 v8 : Option Value} : Ev G M d B rt Q (.aload 9 :: is) (v0 :: v1 :: v2 :: v3 :: v4 :: v5 :: v6 :: v7 :: v8 :: some .null :: ls) st h = Ev G M d B rt Q is (v0 :: v1 :: v2 :: v3 :: v4 :: v5 :: v6 :: v7 :: v8 :: some .null :: ls) (.null :: st) h := propext Ev_iff
theorem e_aload10n  {v0 v1 v2 v3 v4 v5 v6 v7 v8 v9 : Option Value} : Ev G M d B rt Q (.aload 10 :: is) (v0 :: v1 :: v2 :: v3 :: v4 :: v5 :: v6 :: v7 :: v8 :: v9 :: some .null :: ls) st h = Ev G M d B rt Q is (v0 :: v1 :: v2 :: v3 :: v4 :: v5 :: v6 :: v7 :: v8 :: v9 :: some .null :: ls) (.null :: st) h := propext Ev_iff
theorem e_aload0f {x : UInt32}  : Ev G M d B rt Q (.aload 0 :: is) (some (.float x) :: ls) st h = Ev G M d B rt Q is (some (.float x) :: ls) (.float x :: st) h := propext Ev_iff
theorem e_aload1f {x : UInt32} {v0 : Option Value} : Ev G M d B rt Q (.aload 1 :: is) (v0 :: some (.float x) :: ls) st h = Ev G M d B rt Q is (v0 :: some (.float x) :: ls) (.float x :: st) h := propext Ev_iff
theorem e_aload2f {x : UInt32} {v0 v1 : Option Value} : Ev G M d B rt Q (.aload 2 :: is) (v0 :: v1 :: some (.float x) :: ls) st h = Ev G M d B rt Q is (v0 :: v1 :: some (.float x) :: ls) (.float x :: st) h := propext Ev_iff
theorem e_aload3f {x : UInt32} {v0 v1 v2 : Option Value} : Ev G M d B rt Q (.aload 3 :: is) (v0 :: v1 :: v2 :: some (.float x) :: ls) st h = Ev G M d B rt Q is (v0 :: v1 :: v2 :: some (.float x) :: ls) (.float x :: st) h := propext Ev_iff
theorem e_aload4f {x : UInt32} {v0 v1 v2 v3 : Option Value} : Ev G M d B rt Q (.aload 4 :: is) (v0 :: v1 :: v2 :: v3 :: some (.float x) :: ls) st h = Ev G M d B rt Q is (v0 :: v1 :: v2 :: v3 :: some (.float x) :: ls) (.float x :: st) h := propext Ev_iff
theorem e_aload5f {x : UInt32} {v0 v1 v2 v3 v4 : Option Value} : Ev G M d B rt Q (.aload 5 :: is) (v0 :: v1 :: v2 :: v3 :: v4 :: some (.float x) :: ls) st h = Ev G M d B rt Q is (v0 :: v1 :: v2 :: v3 :: v4 :: some (.float x) :: ls) (.float x :: st) h := propext Ev_iff
theorem e_aload6f {x : UInt32} {v0 v1 v2 v3 v4 v5 : Option Value} : Ev G M d B rt Q (.aload 6 :: is) (v0 :: v1 :: v2 :: v3 :: v4 :: v5 :: some (.float x) :: ls) st h = Ev G M d B rt Q is (v0 :: v1 :: v2 :: v3 :: v4 :: v5 :: some (.float x) :: ls) (.float x :: st) h := propext Ev_iff
theorem e_aload7f {x : UInt32} {v0 v1 v2 v3 v4 v5 v6 : Option Value} : Ev G M d B rt Q (.aload 7 :: is) (v0 :: v1 :: v2 :: v3 :: v4 :: v5 :: v6 :: some (.float x) :: ls) st h = Ev G M d B rt Q is (v0 :: v1 :: v2 :: v3 :: v4 :: v5 :: v6 :: some (.float x) :: ls) (.float x :: st) h := propext Ev_iff
theorem e_aload8f {x : UInt32} {v0 v1 v2 v3 v4 v5 v6 v7 : Option Value} : Ev G M d B rt Q (.aload 8 :: is) (v0 :: v1 :: v2 :: v3 :: v4 :: v5 :: v6 :: v7 :: some (.float x) :: ls) st h = Ev G M d B rt Q is (v0 :: v1 :: v2 :: v3 :: v4 :: v5 :: v6 :: v7 :: some (.float x) :: ls) (.float x :: st) h := propext Ev_iff
theorem e_aload9f {x : UInt32} {v0 v1 v2 v3 v4 v5 v6 v7 v8 : Option Value} : Ev G M d B rt Q (.aload 9 :: is) (v0 :: v1 :: v2 :: v3 :: v4 :: v5 :: v6 :: v7 :: v8 :: some (.float x) :: ls) st h = Ev G M d B rt Q is (v0 :: v1 :: v2 :: v3 :: v4 :: v5 :: v6 :: v7 :: v8 :: some (.float x) :: ls) (.float x :: st) h := propext Ev_iff
theorem e_aload10f {x : UInt32} {v0 v1 v2 v3 v4 v5 v6 v7 v8 v9 : Option Value} : Ev G M d B rt Q (.aload 10 :: is) (v0 :: v1 :: v2 :: v3 :: v4 :: v5 :: v6 :: v7 :: v8 :: v9 :: some (.float x) :: ls) st h = Ev G M d B rt Q is (v0 :: v1 :: v2 :: v3 :: v4 :: v5 :: v6 :: v7 :: v8 :: v9 :: some (.float x) :: ls) (.float x :: st) h := propext Ev_iff
theorem e_iinc0 {x : Int32} {c : Int}  : Ev G M d B rt Q (.iinc 0 c :: is) (some (.int x) :: ls) st h = Ev G M d B rt Q is (xst (some (.int x) :: ls) 0 (.int (x + Int32.ofInt c))) st h := propext Ev_iff
theorem e_iinc1 {x : Int32} {c : Int} {v0 : Option Value} : Ev G M d B rt Q (.iinc 1 c :: is) (v0 :: some (.int x) :: ls) st h = Ev G M d B rt Q is (xst (v0 :: some (.int x) :: ls) 1 (.int (x + Int32.ofInt c))) st h := propext Ev_iff
theorem e_iinc2 {x : Int32} {c : Int} {v0 v1 : Option Value} : Ev G M d B rt Q (.iinc 2 c :: is) (v0 :: v1 :: some (.int x) :: ls) st h = Ev G M d B rt Q is (xst (v0 :: v1 :: some (.int x) :: ls) 2 (.int (x + Int32.ofInt c))) st h := propext Ev_iff
theorem e_iinc3 {x : Int32} {c : Int} {v0 v1 v2 : Option Value} : Ev G M d B rt Q (.iinc 3 c :: is) (v0 :: v1 :: v2 :: some (.int x) :: ls) st h = Ev G M d B rt Q is (xst (v0 :: v1 :: v2 :: some (.int x) :: ls) 3 (.int (x + Int32.ofInt c))) st h := propext Ev_iff
theorem e_iinc4 {x : Int32} {c : Int} {v0 v1 v2 v3 : Option Value} : Ev G M d B rt Q (.iinc 4 c :: is) (v0 :: v1 :: v2 :: v3 :: some (.int x) :: ls) st h = Ev G M d B rt Q is (xst (v0 :: v1 :: v2 :: v3 :: some (.int x) :: ls) 4 (.int (x + Int32.ofInt c))) st h := propext Ev_iff
theorem e_iinc5 {x : Int32} {c : Int} {v0 v1 v2 v3 v4 : Option Value} : Ev G M d B rt Q (.iinc 5 c :: is) (v0 :: v1 :: v2 :: v3 :: v4 :: some (.int x) :: ls) st h = Ev G M d B rt Q is (xst (v0 :: v1 :: v2 :: v3 :: v4 :: some (.int x) :: ls) 5 (.int (x + Int32.ofInt c))) st h := propext Ev_iff
theorem e_iinc6 {x : Int32} {c : Int} {v0 v1 v2 v3 v4 v5 : Option Value} : Ev G M d B rt Q (.iinc 6 c :: is) (v0 :: v1 :: v2 :: v3 :: v4 :: v5 :: some (.int x) :: ls) st h = Ev G M d B rt Q is (xst (v0 :: v1 :: v2 :: v3 :: v4 :: v5 :: some (.int x) :: ls) 6 (.int (x + Int32.ofInt c))) st h := propext Ev_iff
theorem e_iinc7 {x : Int32} {c : Int} {v0 v1 v2 v3 v4 v5 v6 : Option Value} : Ev G M d B rt Q (.iinc 7 c :: is) (v0 :: v1 :: v2 :: v3 :: v4 :: v5 :: v6 :: some (.int x) :: ls) st h = Ev G M d B rt Q is (xst (v0 :: v1 :: v2 :: v3 :: v4 :: v5 :: v6 :: some (.int x) :: ls) 7 (.int (x + Int32.ofInt c))) st h := propext Ev_iff
theorem e_iinc8 {x : Int32} {c : Int} {v0 v1 v2 v3 v4 v5 v6 v7 : Option Value} : Ev G M d B rt Q (.iinc 8 c :: is) (v0 :: v1 :: v2 :: v3 :: v4 :: v5 :: v6 :: v7 :: some (.int x) :: ls) st h = Ev G M d B rt Q is (xst (v0 :: v1 :: v2 :: v3 :: v4 :: v5 :: v6 :: v7 :: some (.int x) :: ls) 8 (.int (x + Int32.ofInt c))) st h := propext Ev_iff
theorem e_iinc9 {x : Int32} {c : Int} {v0 v1 v2 v3 v4 v5 v6 v7 v8 : Option Value} : Ev G M d B rt Q (.iinc 9 c :: is) (v0 :: v1 :: v2 :: v3 :: v4 :: v5 :: v6 :: v7 :: v8 :: some (.int x) :: ls) st h = Ev G M d B rt Q is (xst (v0 :: v1 :: v2 :: v3 :: v4 :: v5 :: v6 :: v7 :: v8 :: some (.int x) :: ls) 9 (.int (x + Int32.ofInt c))) st h := propext Ev_iff
theorem e_iinc10 {x : Int32} {c : Int} {v0 v1 v2 v3 v4 v5 v6 v7 v8 v9 : Option Value} : Ev G M d B rt Q (.iinc 10 c :: is) (v0 :: v1 :: v2 :: v3 :: v4 :: v5 :: v6 :: v7 :: v8 :: v9 :: some (.int x) :: ls) st h = Ev G M d B rt Q is (xst (v0 :: v1 :: v2 :: v3 :: v4 :: v5 :: v6 :: v7 :: v8 :: v9 :: some (.int x) :: ls) 10 (.int (x + Int32.ofInt c))) st h := propext Ev_iff
theorem xst_0 {u : Option Value} {v : Value} : xst (u :: ls) 0 v = some v :: ls := rfl
theorem xst_1i {y : Int32} {w : Option Value} {v : Value} : xst (some (.int y) :: w :: ls) 1 v = some (.int y) :: some v :: ls := rfl
theorem xst2_1i {y : Int32} {w z : Option Value} {v : Value} : xst2 (some (.int y) :: w :: z :: ls) 1 v = some (.int y) :: some v :: none :: ls := rfl
theorem xst_1r {y : Nat} {w : Option Value} {v : Value} : xst (some (.ref y) :: w :: ls) 1 v = some (.ref y) :: some v :: ls := rfl
theorem xst2_1r {y : Nat} {w z : Option Value} {v : Value} : xst2 (some (.ref y) :: w :: z :: ls) 1 v = some (.ref y) :: some v :: none :: ls := rfl
theorem xst_1n  {w : Option Value} {v : Value} : xst (some .null :: w :: ls) 1 v = some .null :: some v :: ls := rfl
theorem xst2_1n  {w z : Option Value} {v : Value} : xst2 (some .null :: w :: z :: ls) 1 v = some .null :: some v :: none :: ls := rfl
theorem xst_1f {y : UInt32} {w : Option Value} {v : Value} : xst (some (.float y) :: w :: ls) 1 v = some (.float y) :: some v :: ls := rfl
theorem xst2_1f {y : UInt32} {w z : Option Value} {v : Value} : xst2 (some (.float y) :: w :: z :: ls) 1 v = some (.float y) :: some v :: none :: ls := rfl
theorem xst_1u  {w : Option Value} {v : Value} : xst (none :: w :: ls) 1 v = none :: some v :: ls := rfl
theorem xst2_1u  {w z : Option Value} {v : Value} : xst2 (none :: w :: z :: ls) 1 v = none :: some v :: none :: ls := rfl
theorem xst_1l {y : Int64} {w : Option Value} {v : Value} : xst (some (.long y) :: w :: ls) 1 v = none :: some v :: ls := rfl
theorem xst2_1l {y : Int64} {w z : Option Value} {v : Value} : xst2 (some (.long y) :: w :: z :: ls) 1 v = none :: some v :: none :: ls := rfl
theorem xst2_0 {u w : Option Value} {v : Value} : xst2 (u :: w :: ls) 0 v = some v :: none :: ls := rfl
theorem xst_s {u : Option Value} {v : Value} {a : Nat} : xst (u :: ls) (a + 2) v = u :: xst ls (a + 1) v := by
  unfold xst xcl
  simp only [List.getD_cons_succ]
  split <;> rfl
theorem xst2_s {u : Option Value} {v : Value} {a : Nat} : xst2 (u :: ls) (a + 2) v = u :: xst2 ls (a + 1) v := by
  unfold xst2 xcl
  simp only [List.getD_cons_succ]
  split <;> rfl
theorem e_istore {a : Nat} {x : Int32} : Ev G M d B rt Q (.istore a :: is) ls (.int x :: st) h = (Ev G M d B rt Q is (xst ls a (.int x)) st h) := propext Ev_iff
theorem e_lstore {a : Nat} {x : Int64} : Ev G M d B rt Q (.lstore a :: is) ls (.long x :: st) h = (Ev G M d B rt Q is (xst2 ls a (.long x)) st h) := propext Ev_iff
theorem e_astore {a x : Nat} : Ev G M d B rt Q (.astore a :: is) ls (.ref x :: st) h = (Ev G M d B rt Q is (xst ls a (.ref x)) st h) := propext Ev_iff
theorem e_astoreN {a : Nat} : Ev G M d B rt Q (.astore a :: is) ls (.null :: st) h = (Ev G M d B rt Q is (xst ls a .null) st h) := propext Ev_iff
theorem e_iadd {x y : Int32} : Ev G M d B rt Q (.iadd :: is) ls (.int y :: .int x :: st) h = Ev G M d B rt Q is ls (.int (x + y) :: st) h := propext Ev_iff
theorem e_isub {x y : Int32} : Ev G M d B rt Q (.isub :: is) ls (.int y :: .int x :: st) h = Ev G M d B rt Q is ls (.int (x - y) :: st) h := propext Ev_iff
theorem e_imul {x y : Int32} : Ev G M d B rt Q (.imul :: is) ls (.int y :: .int x :: st) h = Ev G M d B rt Q is ls (.int (x * y) :: st) h := propext Ev_iff
theorem e_iand {x y : Int32} : Ev G M d B rt Q (.iand :: is) ls (.int y :: .int x :: st) h = Ev G M d B rt Q is ls (.int (x &&& y) :: st) h := propext Ev_iff
theorem e_ior {x y : Int32} : Ev G M d B rt Q (.ior :: is) ls (.int y :: .int x :: st) h = Ev G M d B rt Q is ls (.int (x ||| y) :: st) h := propext Ev_iff
theorem e_ixor {x y : Int32} : Ev G M d B rt Q (.ixor :: is) ls (.int y :: .int x :: st) h = Ev G M d B rt Q is ls (.int (x ^^^ y) :: st) h := propext Ev_iff
theorem e_ishl {x y : Int32} : Ev G M d B rt Q (.ishl :: is) ls (.int y :: .int x :: st) h = Ev G M d B rt Q is ls (.int (x <<< (y &&& 31)) :: st) h := propext Ev_iff
theorem e_ishr {x y : Int32} : Ev G M d B rt Q (.ishr :: is) ls (.int y :: .int x :: st) h = Ev G M d B rt Q is ls (.int (x >>> (y &&& 31)) :: st) h := propext Ev_iff
theorem e_iushr {x y : Int32} : Ev G M d B rt Q (.iushr :: is) ls (.int y :: .int x :: st) h = Ev G M d B rt Q is ls (.int (x.toUInt32 >>> (y.toUInt32 &&& Int32.toUInt32 31)).toInt32 :: st) h := propext Ev_iff
theorem e_ladd {x y : Int64} : Ev G M d B rt Q (.ladd :: is) ls (.long y :: .long x :: st) h = Ev G M d B rt Q is ls (.long (x + y) :: st) h := propext Ev_iff
theorem e_lsub {x y : Int64} : Ev G M d B rt Q (.lsub :: is) ls (.long y :: .long x :: st) h = Ev G M d B rt Q is ls (.long (x - y) :: st) h := propext Ev_iff
theorem e_lmul {x y : Int64} : Ev G M d B rt Q (.lmul :: is) ls (.long y :: .long x :: st) h = Ev G M d B rt Q is ls (.long (x * y) :: st) h := propext Ev_iff
theorem e_land {x y : Int64} : Ev G M d B rt Q (.land :: is) ls (.long y :: .long x :: st) h = Ev G M d B rt Q is ls (.long (x &&& y) :: st) h := propext Ev_iff
theorem e_lor {x y : Int64} : Ev G M d B rt Q (.lor :: is) ls (.long y :: .long x :: st) h = Ev G M d B rt Q is ls (.long (x ||| y) :: st) h := propext Ev_iff
theorem e_lshl {x : Int64} {y : Int32} : Ev G M d B rt Q (.lshl :: is) ls (.int y :: .long x :: st) h = Ev G M d B rt Q is ls (.long (x <<< (y.toInt64 &&& 63)) :: st) h := propext Ev_iff
theorem e_lcmp {x y : Int64} : Ev G M d B rt Q (.lcmp :: is) ls (.long y :: .long x :: st) h = Ev G M d B rt Q is ls (.int (lg_cmp x y) :: st) h := propext Ev_iff
theorem e_i2l {x : Int32} : Ev G M d B rt Q (.i2l :: is) ls (.int x :: st) h = Ev G M d B rt Q is ls (.long x.toInt64 :: st) h := propext Ev_iff
theorem e_l2i {x : Int64} : Ev G M d B rt Q (.l2i :: is) ls (.long x :: st) h = Ev G M d B rt Q is ls (.int x.toInt32 :: st) h := propext Ev_iff
theorem e_i2b {x : Int32} : Ev G M d B rt Q (.i2b :: is) ls (.int x :: st) h = Ev G M d B rt Q is ls (.int x.toInt8.toInt32 :: st) h := propext Ev_iff
theorem e_ineg {x : Int32} : Ev G M d B rt Q (.ineg :: is) ls (.int x :: st) h = Ev G M d B rt Q is ls (.int (-x) :: st) h := propext Ev_iff
theorem e_dupi {x : Int32} : Ev G M d B rt Q (.dup :: is) ls (.int x :: st) h = Ev G M d B rt Q is ls (.int x :: .int x :: st) h := propext Ev_iff
theorem e_dupr {x : Nat} : Ev G M d B rt Q (.dup :: is) ls (.ref x :: st) h = Ev G M d B rt Q is ls (.ref x :: .ref x :: st) h := propext Ev_iff
theorem e_dup2 {x : Nat} {y : Int32} : Ev G M d B rt Q (.dup2 :: is) ls (.int y :: .ref x :: st) h = Ev G M d B rt Q is ls (.int y :: .ref x :: .int y :: .ref x :: st) h := propext Ev_iff
theorem e_popi {x : Int32} : Ev G M d B rt Q (.pop :: is) ls (.int x :: st) h = Ev G M d B rt Q is ls (st) h := propext Ev_iff
theorem e_popr {x : Nat} : Ev G M d B rt Q (.pop :: is) ls (.ref x :: st) h = Ev G M d B rt Q is ls (st) h := propext Ev_iff
theorem e_idiv {x y : Int32} : Ev G M d B rt Q (.idiv :: is) ls (.int y :: .int x :: st) h = ((¬ y = 0) ∧ Ev G M d B rt Q is ls (.int (x / y) :: st) h) := (propext Ev_iff).trans Ev_and
theorem e_irem {x y : Int32} : Ev G M d B rt Q (.irem :: is) ls (.int y :: .int x :: st) h = ((¬ y = 0) ∧ Ev G M d B rt Q is ls (.int (x - x / y * y) :: st) h) := (propext Ev_iff).trans Ev_and
theorem e_ldiv {x y : Int64} : Ev G M d B rt Q (.ldiv :: is) ls (.long y :: .long x :: st) h = ((¬ y = 0) ∧ Ev G M d B rt Q is ls (.long (x / y) :: st) h) := (propext Ev_iff).trans Ev_and
theorem e_lrem {x y : Int64} : Ev G M d B rt Q (.lrem :: is) ls (.long y :: .long x :: st) h = ((¬ y = 0) ∧ Ev G M d B rt Q is ls (.long (x - x / y * y) :: st) h) := (propext Ev_iff).trans Ev_and
theorem e_ifCond {x : Int32} {c : ClassFile.Cond} {t : Int} : Ev G M d B rt Q (.ifCond c t :: is) ls (.int x :: st) h = (if xcond c x 0 = true then Ev G M d B rt Q (B t.toNat) ls st h else Ev G M d B rt Q is ls st h) := by
  refine propext (Ev_iff.trans ?_)
  simp only [xstep]
  by_cases q : xcond c x 0 = true
  · simp only [if_pos q]; rfl
  · simp only [if_neg q]; rfl
theorem e_if_icmp {x y : Int32} {c : ClassFile.Cond} {t : Int} : Ev G M d B rt Q (.if_icmp c t :: is) ls (.int y :: .int x :: st) h = (if xcond c x y = true then Ev G M d B rt Q (B t.toNat) ls st h else Ev G M d B rt Q is ls st h) := by
  refine propext (Ev_iff.trans ?_)
  simp only [xstep]
  by_cases q : xcond c x y = true
  · simp only [if_pos q]; rfl
  · simp only [if_neg q]; rfl
theorem e_ifnullR {x : Nat} {t : Int} : Ev G M d B rt Q (.ifnull t :: is) ls (.ref x :: st) h = Ev G M d B rt Q is ls (st) h := propext Ev_iff
theorem e_ifnullN {t : Int} : Ev G M d B rt Q (.ifnull t :: is) ls (.null :: st) h = (Ev G M d B rt Q (B t.toNat) ls st h) := propext Ev_iff
theorem e_ifnonnullR {x : Nat} {t : Int} : Ev G M d B rt Q (.ifnonnull t :: is) ls (.ref x :: st) h = (Ev G M d B rt Q (B t.toNat) ls st h) := propext Ev_iff
theorem e_ifnonnullN {t : Int} : Ev G M d B rt Q (.ifnonnull t :: is) ls (.null :: st) h = Ev G M d B rt Q is ls (st) h := propext Ev_iff
theorem e_goto {t : Int} : Ev G M d B rt Q (.goto t :: is) ls st h = (Ev G M d B rt Q (B t.toNat) ls st h) := propext Ev_iff
theorem e_jsr {t : Int} : Ev G M d B rt Q (.jsr t :: is) ls st h = (Ev G M d B rt Q (B t.toNat) ls st h) := propext Ev_iff
theorem e_tsw {x : Int32} {t lo hi : Int} {a : Array Int} : Ev G M d B rt Q (.tableswitch t lo hi a :: is) ls (.int x :: st) h = (Ev G M d B rt Q (B (xsw t lo hi a x)) ls st h) := propext Ev_iff
theorem e_lsw {x : Int32} {t : Int} {a : Array (Int × Int)} : Ev G M d B rt Q (.lookupswitch t a :: is) ls (.int x :: st) h = (Ev G M d B rt Q (B (Op.lookupswitch.offset a.toList t x.toInt).toNat) ls st h) := propext Ev_iff
theorem e_getfield {a c : Nat} : Ev G M d B rt Q (.getfield c :: is) ls (.ref a :: st) h = (xis h a (.inr (c / 64)) ∧ Ev G M d B rt Q is ls (.int (xI h a (c % 64)) :: st) h) := (propext Ev_iff).trans Ev_and
theorem e_dload {a c : Nat} : Ev G M d B rt Q (.dload c :: is) ls (.ref a :: st) h = (xis h a (.inr (c / 64)) ∧ Ev G M d B rt Q is ls (.long (xJ h a (c % 64)) :: st) h) := (propext Ev_iff).trans Ev_and
theorem e_fload {a c : Nat} : Ev G M d B rt Q (.fload c :: is) ls (.ref a :: st) h = (xis h a (.inr (c / 64)) ∧ Ev G M d B rt Q is ls (xrf (xR h a (c % 64)) :: st) h) := (propext Ev_iff).trans Ev_and
theorem e_putfield {a c : Nat} {x : Int32} : Ev G M d B rt Q (.putfield c :: is) ls (.int x :: .ref a :: st) h = (xis h a (.inr (c / 64)) ∧ xfit (G.2.2.2.1 (c / 64) (c % 64)) x ∧ Ev G M d B rt Q is ls st (setI h a (c % 64) x)) := propext (Ev_iff.trans ⟨fun ⟨n, h1, h2, e⟩ => ⟨h1, h2, n, e⟩, fun ⟨h1, h2, n, e⟩ => ⟨n, h1, h2, e⟩⟩)
theorem e_dstore {a c : Nat} {x : Int64} : Ev G M d B rt Q (.dstore c :: is) ls (.long x :: .ref a :: st) h = (xis h a (.inr (c / 64)) ∧ Ev G M d B rt Q is ls (st) (setJ h a (c % 64) x)) := (propext Ev_iff).trans Ev_and
theorem e_fstore {a c x : Nat} : Ev G M d B rt Q (.fstore c :: is) ls (.ref x :: .ref a :: st) h = (xis h a (.inr (c / 64)) ∧ Ev G M d B rt Q is ls (st) (setR h a (c % 64) (some x))) := (propext Ev_iff).trans Ev_and
theorem e_fstoreN {a c : Nat} : Ev G M d B rt Q (.fstore c :: is) ls (.null :: .ref a :: st) h = (xis h a (.inr (c / 64)) ∧ Ev G M d B rt Q is ls (st) (setR h a (c % 64) none)) := (propext Ev_iff).trans Ev_and
theorem e_monitor {a : Nat} : Ev G M d B rt Q (.monitorenter :: is) ls (.ref a :: st) h = ((st.map fun v => v.category).sum ≤ 8 ∧ Ev G M d B rt Q is ls (st) h) := (propext Ev_iff).trans Ev_and
theorem e_new {c : Nat} : Ev G M d B rt Q (.new c :: is) ls st h = Ev G M d B rt Q is ls (.ref h.1 :: st) (xnew h (.inr c, G.1 c)) := propext Ev_iff
theorem e_newarray {t : ArrayType} {n : Int32} : Ev G M d B rt Q (.newarray t :: is) ls (.int n :: st) h = ((¬ n < 0 ∧ n.toNatClampNeg ≤ 1000000) ∧ Ev G M d B rt Q is ls (.ref h.1 :: st) (xnew h (.inl (newarray.typeOf t), n.toNatClampNeg))) := (propext Ev_iff).trans Ev_and
theorem e_anewarray {c : Nat} {n : Int32} : Ev G M d B rt Q (.anewarray c :: is) ls (.int n :: st) h = ((¬ n < 0 ∧ n.toNatClampNeg ≤ 1000000) ∧ Ev G M d B rt Q is ls (.ref h.1 :: st) (xnew h (.inl (.object (G.2.2.2.2.1 c)), n.toNatClampNeg))) := (propext Ev_iff).trans Ev_and
theorem e_mnew {a b : Nat} {n1 n2 : Int32} : Ev G M d B rt Q (.multianewarray a b :: is) ls (.int n2 :: .int n1 :: st) h = ((¬ n1 < 0 ∧ ¬ n2 < 0 ∧ n1.toNatClampNeg ≤ 1000 ∧ n2.toNatClampNeg ≤ 1000) ∧ Ev G M d B rt Q is ls (.ref h.1 :: st) (xnew2 h n1.toNatClampNeg n2.toNatClampNeg)) := (propext Ev_iff).trans Ev_and
theorem e_alen {a : Nat} : Ev G M d B rt Q (.arraylength :: is) ls (.ref a :: st) h = ((∃ ty, xis h a (.inl ty) ∧ ty ∈ [FieldType.int, .byte, .long, .boolean, .object "RankFord$Rule"]) ∧ Ev G M d B rt Q is ls (.int (Int32.ofNat (xlen h a)) :: st) h) := (propext Ev_iff).trans Ev_and
theorem e_slen {u : UInt32} : Ev G M d B rt Q (.f2i :: is) ls (.float u :: st) h = ((xokU u ∧ (st.map fun v => v.category).sum ≤ 8) ∧ Ev G M d B rt Q is ls (.int (Int32.ofNat (xstr u).length) :: st) h) := (propext Ev_iff).trans Ev_and
theorem e_schr {i : Int32} {u : UInt32} : Ev G M d B rt Q (.faload :: is) ls (.int i :: .float u :: st) h = ((xokU u ∧ vp_in i (xstr u).length ∧ (st.map fun v => v.category).sum ≤ 8) ∧ Ev G M d B rt Q is ls (.int ((xstr u).getD i.toNatClampNeg 0) :: st) h) := (propext Ev_iff).trans Ev_and
theorem e_alenF {u : UInt32} : Ev G M d B rt Q (.arraylength :: is) ls (.float u :: st) h = (u = 0 ∧ Ev G M d B rt Q is ls (.int (Int32.ofNat G.2.2.2.2.2.1) :: st) h) := (propext Ev_iff).trans Ev_and
theorem e_iaload {a : Nat} {i : Int32} : Ev G M d B rt Q (.iaload :: is) ls (.int i :: .ref a :: st) h = ((xis h a (.inl .int) ∧ vp_in i (xlen h a)) ∧ Ev G M d B rt Q is ls (.int (xI h a i.toNatClampNeg) :: st) h) := (propext Ev_iff).trans Ev_and
theorem e_ialoadF {u : UInt32} {i : Int32} : Ev G M d B rt Q (.iaload :: is) ls (.int i :: .float u :: st) h = ((u = 0 ∧ vp_in i G.2.2.2.2.2.1) ∧ Ev G M d B rt Q is ls (.int (G.2.2.2.2.2.2 i.toNatClampNeg) :: st) h) := (propext Ev_iff).trans Ev_and
theorem e_baload {a : Nat} {i : Int32} : Ev G M d B rt Q (.baload :: is) ls (.int i :: .ref a :: st) h = (((xis h a (.inl .byte) ∨ xis h a (.inl .boolean)) ∧ vp_in i (xlen h a)) ∧ Ev G M d B rt Q is ls (.int (xI h a i.toNatClampNeg) :: st) h) := (propext Ev_iff).trans Ev_and
theorem e_laload {a : Nat} {i : Int32} : Ev G M d B rt Q (.laload :: is) ls (.int i :: .ref a :: st) h = ((xis h a (.inl .long) ∧ vp_in i (xlen h a)) ∧ Ev G M d B rt Q is ls (.long (xJ h a i.toNatClampNeg) :: st) h) := (propext Ev_iff).trans Ev_and
theorem e_aaload {a : Nat} {i : Int32} : Ev G M d B rt Q (.aaload :: is) ls (.int i :: .ref a :: st) h = (((∃ ty, xis h a (.inl ty) ∧ (ty = .array .int ∨ ∃ c, ty = .object (G.2.2.2.2.1 c) ∧ c < 64)) ∧ vp_in i (xlen h a)) ∧ Ev G M d B rt Q is ls (xrf (xR h a i.toNatClampNeg) :: st) h) := (propext Ev_iff).trans Ev_and
theorem e_iastore {a : Nat} {i x : Int32} : Ev G M d B rt Q (.iastore :: is) ls (.int x :: .int i :: .ref a :: st) h = ((xis h a (.inl .int) ∧ vp_in i (xlen h a)) ∧ Ev G M d B rt Q is ls (st) (setI h a i.toNatClampNeg x)) := (propext Ev_iff).trans Ev_and
theorem e_lastore {a : Nat} {i : Int32} {x : Int64} : Ev G M d B rt Q (.lastore :: is) ls (.long x :: .int i :: .ref a :: st) h = ((xis h a (.inl .long) ∧ vp_in i (xlen h a)) ∧ Ev G M d B rt Q is ls (st) (setJ h a i.toNatClampNeg x)) := (propext Ev_iff).trans Ev_and
theorem e_aastore {a x : Nat} {i : Int32} : Ev G M d B rt Q (.aastore :: is) ls (.ref x :: .int i :: .ref a :: st) h = ((∃ c, xis h x (.inr c) ∧ xis h a (.inl (.object (G.2.2.2.2.1 c))) ∧ vp_in i (xlen h a)) ∧ Ev G M d B rt Q is ls (st) (setR h a i.toNatClampNeg (some x))) := (propext Ev_iff).trans Ev_and
theorem e_bastoreB {a : Nat} {i x : Int32} (hb : xis h a (.inl .byte)) : Ev G M d B rt Q (.bastore :: is) ls (.int x :: .int i :: .ref a :: st) h = (vp_in i (xlen h a) ∧ Ev G M d B rt Q is ls st (setI h a i.toNatClampNeg x.toInt8.toInt32)) := by
  refine propext (Ev_iff.trans ⟨fun ⟨n, ty, ⟨h1, _, h3⟩, e⟩ => ?_, fun ⟨h3, n, e⟩ => ⟨n, .byte, ⟨hb, Or.inl rfl, h3⟩, e⟩⟩)
  have q : FieldType.byte = ty := Sum.inl.inj (hb.2.symm.trans h1.2)
  subst q
  exact ⟨h3, n, e⟩
theorem e_bastoreZ {a : Nat} {i x : Int32} (hb : xis h a (.inl .boolean)) : Ev G M d B rt Q (.bastore :: is) ls (.int x :: .int i :: .ref a :: st) h = (vp_in i (xlen h a) ∧ Ev G M d B rt Q is ls st (setI h a i.toNatClampNeg (x &&& 1))) := by
  refine propext (Ev_iff.trans ⟨fun ⟨n, ty, ⟨h1, _, h3⟩, e⟩ => ?_, fun ⟨h3, n, e⟩ => ⟨n, .boolean, ⟨hb, Or.inr rfl, h3⟩, e⟩⟩)
  have q : FieldType.boolean = ty := Sum.inl.inj (hb.2.symm.trans h1.2)
  subst q
  exact ⟨h3, n, e⟩
theorem e_copy {a b : Nat} {n dp sp : Int32} : Ev G M d B rt Q (.caload :: is) ls (.int n :: .int dp :: .ref b :: .int sp :: .ref a :: st) h = ((xis h a (.inl .int) ∧ xis h b (.inl .int) ∧ ¬ sp < 0 ∧ ¬ dp < 0 ∧ ¬ n < 0 ∧ sp.toNatClampNeg + n.toNatClampNeg ≤ xlen h a ∧ dp.toNatClampNeg + n.toNatClampNeg ≤ xlen h b ∧ (st.map fun v => v.category).sum ≤ 8) ∧ Ev G M d B rt Q is ls (st) (rowI h b (va_cpy (xI h a) (xI h b) sp.toNatClampNeg dp.toNatClampNeg n.toNatClampNeg))) := (propext Ev_iff).trans Ev_and
theorem e_invokevirtual1 {m : Nat} {a0 : Nat}  (hn : G.2.1 m = 1) : Ev G M d B rt Q (.invokevirtual m :: is) ls (.ref a0 :: st) h = ((xis h a0 (.inr (G.2.2.1 m)) ∧ (st.map fun v => v.category).sum ≤ 8) ∧ Call G M d m [.ref a0] h (fun v h' => Ev G M d B rt Q is ls (v.toList ++ st) h')) := by
  refine (propext Ev_iff).trans ?_
  simp only [xstep, hn]
  show (∃ n, (xis h a0 (.inr (G.2.2.1 m)) ∧ 1 = 1 ∧ _) ∧ Call G M d m [.ref a0] h (fun v h' => ev G (Call G M d) B rt Q n is ls (v.toList ++ st) h')) = _
  rw [Ev_and, Ev_call (K := fun _ _ _ _ _ => True)]
  simp only [true_and, List.drop_succ_cons, List.drop_zero]
theorem e_invokevirtual2 {m : Nat} {a0 : Nat} {a1 : Value} (hn : G.2.1 m = 2) : Ev G M d B rt Q (.invokevirtual m :: is) ls (a1 :: .ref a0 :: st) h = ((xis h a0 (.inr (G.2.2.1 m)) ∧ (st.map fun v => v.category).sum ≤ 8) ∧ Call G M d m [.ref a0, a1] h (fun v h' => Ev G M d B rt Q is ls (v.toList ++ st) h')) := by
  refine (propext Ev_iff).trans ?_
  simp only [xstep, hn]
  show (∃ n, (xis h a0 (.inr (G.2.2.1 m)) ∧ 2 = 2 ∧ _) ∧ Call G M d m [.ref a0, a1] h (fun v h' => ev G (Call G M d) B rt Q n is ls (v.toList ++ st) h')) = _
  rw [Ev_and, Ev_call (K := fun _ _ _ _ _ => True)]
  simp only [true_and, List.drop_succ_cons, List.drop_zero]
theorem e_invokevirtual3 {m : Nat} {a0 : Nat} {a1 a2 : Value} (hn : G.2.1 m = 3) : Ev G M d B rt Q (.invokevirtual m :: is) ls (a2 :: a1 :: .ref a0 :: st) h = ((xis h a0 (.inr (G.2.2.1 m)) ∧ (st.map fun v => v.category).sum ≤ 8) ∧ Call G M d m [.ref a0, a1, a2] h (fun v h' => Ev G M d B rt Q is ls (v.toList ++ st) h')) := by
  refine (propext Ev_iff).trans ?_
  simp only [xstep, hn]
  show (∃ n, (xis h a0 (.inr (G.2.2.1 m)) ∧ 3 = 3 ∧ _) ∧ Call G M d m [.ref a0, a1, a2] h (fun v h' => ev G (Call G M d) B rt Q n is ls (v.toList ++ st) h')) = _
  rw [Ev_and, Ev_call (K := fun _ _ _ _ _ => True)]
  simp only [true_and, List.drop_succ_cons, List.drop_zero]
theorem e_invokevirtual4 {m : Nat} {a0 : Nat} {a1 a2 a3 : Value} (hn : G.2.1 m = 4) : Ev G M d B rt Q (.invokevirtual m :: is) ls (a3 :: a2 :: a1 :: .ref a0 :: st) h = ((xis h a0 (.inr (G.2.2.1 m)) ∧ (st.map fun v => v.category).sum ≤ 8) ∧ Call G M d m [.ref a0, a1, a2, a3] h (fun v h' => Ev G M d B rt Q is ls (v.toList ++ st) h')) := by
  refine (propext Ev_iff).trans ?_
  simp only [xstep, hn]
  show (∃ n, (xis h a0 (.inr (G.2.2.1 m)) ∧ 4 = 4 ∧ _) ∧ Call G M d m [.ref a0, a1, a2, a3] h (fun v h' => ev G (Call G M d) B rt Q n is ls (v.toList ++ st) h')) = _
  rw [Ev_and, Ev_call (K := fun _ _ _ _ _ => True)]
  simp only [true_and, List.drop_succ_cons, List.drop_zero]
theorem e_invokevirtual5 {m : Nat} {a0 : Nat} {a1 a2 a3 a4 : Value} (hn : G.2.1 m = 5) : Ev G M d B rt Q (.invokevirtual m :: is) ls (a4 :: a3 :: a2 :: a1 :: .ref a0 :: st) h = ((xis h a0 (.inr (G.2.2.1 m)) ∧ (st.map fun v => v.category).sum ≤ 8) ∧ Call G M d m [.ref a0, a1, a2, a3, a4] h (fun v h' => Ev G M d B rt Q is ls (v.toList ++ st) h')) := by
  refine (propext Ev_iff).trans ?_
  simp only [xstep, hn]
  show (∃ n, (xis h a0 (.inr (G.2.2.1 m)) ∧ 5 = 5 ∧ _) ∧ Call G M d m [.ref a0, a1, a2, a3, a4] h (fun v h' => ev G (Call G M d) B rt Q n is ls (v.toList ++ st) h')) = _
  rw [Ev_and, Ev_call (K := fun _ _ _ _ _ => True)]
  simp only [true_and, List.drop_succ_cons, List.drop_zero]
theorem e_invokevirtual6 {m : Nat} {a0 : Nat} {a1 a2 a3 a4 a5 : Value} (hn : G.2.1 m = 6) : Ev G M d B rt Q (.invokevirtual m :: is) ls (a5 :: a4 :: a3 :: a2 :: a1 :: .ref a0 :: st) h = ((xis h a0 (.inr (G.2.2.1 m)) ∧ (st.map fun v => v.category).sum ≤ 8) ∧ Call G M d m [.ref a0, a1, a2, a3, a4, a5] h (fun v h' => Ev G M d B rt Q is ls (v.toList ++ st) h')) := by
  refine (propext Ev_iff).trans ?_
  simp only [xstep, hn]
  show (∃ n, (xis h a0 (.inr (G.2.2.1 m)) ∧ 6 = 6 ∧ _) ∧ Call G M d m [.ref a0, a1, a2, a3, a4, a5] h (fun v h' => ev G (Call G M d) B rt Q n is ls (v.toList ++ st) h')) = _
  rw [Ev_and, Ev_call (K := fun _ _ _ _ _ => True)]
  simp only [true_and, List.drop_succ_cons, List.drop_zero]
theorem e_invokevirtual7 {m : Nat} {a0 : Nat} {a1 a2 a3 a4 a5 a6 : Value} (hn : G.2.1 m = 7) : Ev G M d B rt Q (.invokevirtual m :: is) ls (a6 :: a5 :: a4 :: a3 :: a2 :: a1 :: .ref a0 :: st) h = ((xis h a0 (.inr (G.2.2.1 m)) ∧ (st.map fun v => v.category).sum ≤ 8) ∧ Call G M d m [.ref a0, a1, a2, a3, a4, a5, a6] h (fun v h' => Ev G M d B rt Q is ls (v.toList ++ st) h')) := by
  refine (propext Ev_iff).trans ?_
  simp only [xstep, hn]
  show (∃ n, (xis h a0 (.inr (G.2.2.1 m)) ∧ 7 = 7 ∧ _) ∧ Call G M d m [.ref a0, a1, a2, a3, a4, a5, a6] h (fun v h' => ev G (Call G M d) B rt Q n is ls (v.toList ++ st) h')) = _
  rw [Ev_and, Ev_call (K := fun _ _ _ _ _ => True)]
  simp only [true_and, List.drop_succ_cons, List.drop_zero]
theorem e_invokespecial1 {m : Nat} {a0 : Nat}  (hn : G.2.1 m = 1) : Ev G M d B rt Q (.invokespecial m :: is) ls (.ref a0 :: st) h = (((st.map fun v => v.category).sum ≤ 8) ∧ Call G M d m [.ref a0] h (fun v h' => Ev G M d B rt Q is ls (v.toList ++ st) h')) := by
  refine (propext Ev_iff).trans ?_
  simp only [xstep, hn]
  show (∃ n, (1 = 1 ∧ _) ∧ Call G M d m [.ref a0] h (fun v h' => ev G (Call G M d) B rt Q n is ls (v.toList ++ st) h')) = _
  rw [Ev_and, Ev_call (K := fun _ _ _ _ _ => True)]
  simp only [true_and, List.drop_succ_cons, List.drop_zero]
theorem e_invokespecial2 {m : Nat} {a0 : Nat} {a1 : Value} (hn : G.2.1 m = 2) : Ev G M d B rt Q (.invokespecial m :: is) ls (a1 :: .ref a0 :: st) h = (((st.map fun v => v.category).sum ≤ 8) ∧ Call G M d m [.ref a0, a1] h (fun v h' => Ev G M d B rt Q is ls (v.toList ++ st) h')) := by
  refine (propext Ev_iff).trans ?_
  simp only [xstep, hn]
  show (∃ n, (2 = 2 ∧ _) ∧ Call G M d m [.ref a0, a1] h (fun v h' => ev G (Call G M d) B rt Q n is ls (v.toList ++ st) h')) = _
  rw [Ev_and, Ev_call (K := fun _ _ _ _ _ => True)]
  simp only [true_and, List.drop_succ_cons, List.drop_zero]
theorem e_invokespecial3 {m : Nat} {a0 : Nat} {a1 a2 : Value} (hn : G.2.1 m = 3) : Ev G M d B rt Q (.invokespecial m :: is) ls (a2 :: a1 :: .ref a0 :: st) h = (((st.map fun v => v.category).sum ≤ 8) ∧ Call G M d m [.ref a0, a1, a2] h (fun v h' => Ev G M d B rt Q is ls (v.toList ++ st) h')) := by
  refine (propext Ev_iff).trans ?_
  simp only [xstep, hn]
  show (∃ n, (3 = 3 ∧ _) ∧ Call G M d m [.ref a0, a1, a2] h (fun v h' => ev G (Call G M d) B rt Q n is ls (v.toList ++ st) h')) = _
  rw [Ev_and, Ev_call (K := fun _ _ _ _ _ => True)]
  simp only [true_and, List.drop_succ_cons, List.drop_zero]
theorem e_invokespecial4 {m : Nat} {a0 : Nat} {a1 a2 a3 : Value} (hn : G.2.1 m = 4) : Ev G M d B rt Q (.invokespecial m :: is) ls (a3 :: a2 :: a1 :: .ref a0 :: st) h = (((st.map fun v => v.category).sum ≤ 8) ∧ Call G M d m [.ref a0, a1, a2, a3] h (fun v h' => Ev G M d B rt Q is ls (v.toList ++ st) h')) := by
  refine (propext Ev_iff).trans ?_
  simp only [xstep, hn]
  show (∃ n, (4 = 4 ∧ _) ∧ Call G M d m [.ref a0, a1, a2, a3] h (fun v h' => ev G (Call G M d) B rt Q n is ls (v.toList ++ st) h')) = _
  rw [Ev_and, Ev_call (K := fun _ _ _ _ _ => True)]
  simp only [true_and, List.drop_succ_cons, List.drop_zero]
theorem e_invokespecial5 {m : Nat} {a0 : Nat} {a1 a2 a3 a4 : Value} (hn : G.2.1 m = 5) : Ev G M d B rt Q (.invokespecial m :: is) ls (a4 :: a3 :: a2 :: a1 :: .ref a0 :: st) h = (((st.map fun v => v.category).sum ≤ 8) ∧ Call G M d m [.ref a0, a1, a2, a3, a4] h (fun v h' => Ev G M d B rt Q is ls (v.toList ++ st) h')) := by
  refine (propext Ev_iff).trans ?_
  simp only [xstep, hn]
  show (∃ n, (5 = 5 ∧ _) ∧ Call G M d m [.ref a0, a1, a2, a3, a4] h (fun v h' => ev G (Call G M d) B rt Q n is ls (v.toList ++ st) h')) = _
  rw [Ev_and, Ev_call (K := fun _ _ _ _ _ => True)]
  simp only [true_and, List.drop_succ_cons, List.drop_zero]
theorem e_invokespecial6 {m : Nat} {a0 : Nat} {a1 a2 a3 a4 a5 : Value} (hn : G.2.1 m = 6) : Ev G M d B rt Q (.invokespecial m :: is) ls (a5 :: a4 :: a3 :: a2 :: a1 :: .ref a0 :: st) h = (((st.map fun v => v.category).sum ≤ 8) ∧ Call G M d m [.ref a0, a1, a2, a3, a4, a5] h (fun v h' => Ev G M d B rt Q is ls (v.toList ++ st) h')) := by
  refine (propext Ev_iff).trans ?_
  simp only [xstep, hn]
  show (∃ n, (6 = 6 ∧ _) ∧ Call G M d m [.ref a0, a1, a2, a3, a4, a5] h (fun v h' => ev G (Call G M d) B rt Q n is ls (v.toList ++ st) h')) = _
  rw [Ev_and, Ev_call (K := fun _ _ _ _ _ => True)]
  simp only [true_and, List.drop_succ_cons, List.drop_zero]
theorem e_invokespecial7 {m : Nat} {a0 : Nat} {a1 a2 a3 a4 a5 a6 : Value} (hn : G.2.1 m = 7) : Ev G M d B rt Q (.invokespecial m :: is) ls (a6 :: a5 :: a4 :: a3 :: a2 :: a1 :: .ref a0 :: st) h = (((st.map fun v => v.category).sum ≤ 8) ∧ Call G M d m [.ref a0, a1, a2, a3, a4, a5, a6] h (fun v h' => Ev G M d B rt Q is ls (v.toList ++ st) h')) := by
  refine (propext Ev_iff).trans ?_
  simp only [xstep, hn]
  show (∃ n, (7 = 7 ∧ _) ∧ Call G M d m [.ref a0, a1, a2, a3, a4, a5, a6] h (fun v h' => ev G (Call G M d) B rt Q n is ls (v.toList ++ st) h')) = _
  rw [Ev_and, Ev_call (K := fun _ _ _ _ _ => True)]
  simp only [true_and, List.drop_succ_cons, List.drop_zero]
theorem e_invokestatic0 {m : Nat}  (hn : G.2.1 m = 0) : Ev G M d B rt Q (.invokestatic m :: is) ls (st) h = (((st.map fun v => v.category).sum ≤ 8) ∧ Call G M d m [] h (fun v h' => Ev G M d B rt Q is ls (v.toList ++ st) h')) := by
  refine (propext Ev_iff).trans ?_
  simp only [xstep, hn]
  show (∃ n, (0 = 0 ∧ _) ∧ Call G M d m [] h (fun v h' => ev G (Call G M d) B rt Q n is ls (v.toList ++ st) h')) = _
  rw [Ev_and, Ev_call (K := fun _ _ _ _ _ => True)]
  simp only [true_and, List.drop_succ_cons, List.drop_zero]
theorem e_invokestatic1 {m : Nat} {a0 : Value} (hn : G.2.1 m = 1) : Ev G M d B rt Q (.invokestatic m :: is) ls (a0 :: st) h = (((st.map fun v => v.category).sum ≤ 8) ∧ Call G M d m [a0] h (fun v h' => Ev G M d B rt Q is ls (v.toList ++ st) h')) := by
  refine (propext Ev_iff).trans ?_
  simp only [xstep, hn]
  show (∃ n, (1 = 1 ∧ _) ∧ Call G M d m [a0] h (fun v h' => ev G (Call G M d) B rt Q n is ls (v.toList ++ st) h')) = _
  rw [Ev_and, Ev_call (K := fun _ _ _ _ _ => True)]
  simp only [true_and, List.drop_succ_cons, List.drop_zero]
theorem e_invokestatic2 {m : Nat} {a0 a1 : Value} (hn : G.2.1 m = 2) : Ev G M d B rt Q (.invokestatic m :: is) ls (a1 :: a0 :: st) h = (((st.map fun v => v.category).sum ≤ 8) ∧ Call G M d m [a0, a1] h (fun v h' => Ev G M d B rt Q is ls (v.toList ++ st) h')) := by
  refine (propext Ev_iff).trans ?_
  simp only [xstep, hn]
  show (∃ n, (2 = 2 ∧ _) ∧ Call G M d m [a0, a1] h (fun v h' => ev G (Call G M d) B rt Q n is ls (v.toList ++ st) h')) = _
  rw [Ev_and, Ev_call (K := fun _ _ _ _ _ => True)]
  simp only [true_and, List.drop_succ_cons, List.drop_zero]
theorem e_invokestatic3 {m : Nat} {a0 a1 a2 : Value} (hn : G.2.1 m = 3) : Ev G M d B rt Q (.invokestatic m :: is) ls (a2 :: a1 :: a0 :: st) h = (((st.map fun v => v.category).sum ≤ 8) ∧ Call G M d m [a0, a1, a2] h (fun v h' => Ev G M d B rt Q is ls (v.toList ++ st) h')) := by
  refine (propext Ev_iff).trans ?_
  simp only [xstep, hn]
  show (∃ n, (3 = 3 ∧ _) ∧ Call G M d m [a0, a1, a2] h (fun v h' => ev G (Call G M d) B rt Q n is ls (v.toList ++ st) h')) = _
  rw [Ev_and, Ev_call (K := fun _ _ _ _ _ => True)]
  simp only [true_and, List.drop_succ_cons, List.drop_zero]
theorem e_invokestatic4 {m : Nat} {a0 a1 a2 a3 : Value} (hn : G.2.1 m = 4) : Ev G M d B rt Q (.invokestatic m :: is) ls (a3 :: a2 :: a1 :: a0 :: st) h = (((st.map fun v => v.category).sum ≤ 8) ∧ Call G M d m [a0, a1, a2, a3] h (fun v h' => Ev G M d B rt Q is ls (v.toList ++ st) h')) := by
  refine (propext Ev_iff).trans ?_
  simp only [xstep, hn]
  show (∃ n, (4 = 4 ∧ _) ∧ Call G M d m [a0, a1, a2, a3] h (fun v h' => ev G (Call G M d) B rt Q n is ls (v.toList ++ st) h')) = _
  rw [Ev_and, Ev_call (K := fun _ _ _ _ _ => True)]
  simp only [true_and, List.drop_succ_cons, List.drop_zero]
theorem e_invokestatic5 {m : Nat} {a0 a1 a2 a3 a4 : Value} (hn : G.2.1 m = 5) : Ev G M d B rt Q (.invokestatic m :: is) ls (a4 :: a3 :: a2 :: a1 :: a0 :: st) h = (((st.map fun v => v.category).sum ≤ 8) ∧ Call G M d m [a0, a1, a2, a3, a4] h (fun v h' => Ev G M d B rt Q is ls (v.toList ++ st) h')) := by
  refine (propext Ev_iff).trans ?_
  simp only [xstep, hn]
  show (∃ n, (5 = 5 ∧ _) ∧ Call G M d m [a0, a1, a2, a3, a4] h (fun v h' => ev G (Call G M d) B rt Q n is ls (v.toList ++ st) h')) = _
  rw [Ev_and, Ev_call (K := fun _ _ _ _ _ => True)]
  simp only [true_and, List.drop_succ_cons, List.drop_zero]
theorem e_invokestatic6 {m : Nat} {a0 a1 a2 a3 a4 a5 : Value} (hn : G.2.1 m = 6) : Ev G M d B rt Q (.invokestatic m :: is) ls (a5 :: a4 :: a3 :: a2 :: a1 :: a0 :: st) h = (((st.map fun v => v.category).sum ≤ 8) ∧ Call G M d m [a0, a1, a2, a3, a4, a5] h (fun v h' => Ev G M d B rt Q is ls (v.toList ++ st) h')) := by
  refine (propext Ev_iff).trans ?_
  simp only [xstep, hn]
  show (∃ n, (6 = 6 ∧ _) ∧ Call G M d m [a0, a1, a2, a3, a4, a5] h (fun v h' => ev G (Call G M d) B rt Q n is ls (v.toList ++ st) h')) = _
  rw [Ev_and, Ev_call (K := fun _ _ _ _ _ => True)]
  simp only [true_and, List.drop_succ_cons, List.drop_zero]
theorem e_invokestatic7 {m : Nat} {a0 a1 a2 a3 a4 a5 a6 : Value} (hn : G.2.1 m = 7) : Ev G M d B rt Q (.invokestatic m :: is) ls (a6 :: a5 :: a4 :: a3 :: a2 :: a1 :: a0 :: st) h = (((st.map fun v => v.category).sum ≤ 8) ∧ Call G M d m [a0, a1, a2, a3, a4, a5, a6] h (fun v h' => Ev G M d B rt Q is ls (v.toList ++ st) h')) := by
  refine (propext Ev_iff).trans ?_
  simp only [xstep, hn]
  show (∃ n, (7 = 7 ∧ _) ∧ Call G M d m [a0, a1, a2, a3, a4, a5, a6] h (fun v h' => ev G (Call G M d) B rt Q n is ls (v.toList ++ st) h')) = _
  rw [Ev_and, Ev_call (K := fun _ _ _ _ _ => True)]
  simp only [true_and, List.drop_succ_cons, List.drop_zero]
theorem e_ireturnI {x : Int32} : Ev G M d B (some .int) Q (.ireturn :: is) ls [.int x] h = Q (some (.int x)) h := propext (Ev_iff.trans ⟨fun ⟨_, e⟩ => e.2, fun e => ⟨0, ⟨.int, rfl, trivial⟩, e⟩⟩)
theorem r_ireturnZ {x : Int32} : Ev G M d B (some .boolean) Q (.ireturn :: is) ls [.int x] h = ((x = 0 ∨ x = 1) ∧ Q (some (.int x)) h) := propext (Ev_iff.trans ⟨fun ⟨_, ⟨ty, e1, e2⟩, e⟩ => ⟨by cases e1; exact e2, e⟩, fun ⟨e1, e⟩ => ⟨0, ⟨.boolean, rfl, e1⟩, e⟩⟩)
def bI (b : Bool) : Int32 := if b = true then 1 else 0
theorem e_ireturnZ0 : Ev G M d B (some .boolean) Q (.ireturn :: is) ls [.int (nI 0)] h = Q (some (.int (bI false))) h := r_ireturnZ.trans (propext ⟨fun e => e.2, fun e => ⟨Or.inl (by decide), e⟩⟩)
theorem e_ireturnZ1 : Ev G M d B (some .boolean) Q (.ireturn :: is) ls [.int (nI 1)] h = Q (some (.int (bI true))) h := r_ireturnZ.trans (propext ⟨fun e => e.2, fun e => ⟨Or.inr (by decide), e⟩⟩)
theorem e_ireturnZb {b : Bool} : Ev G M d B (some .boolean) Q (.ireturn :: is) ls [.int (bI b)] h = Q (some (.int (bI b))) h := r_ireturnZ.trans (propext ⟨fun e => e.2, fun e => ⟨by cases b <;> decide, e⟩⟩)
theorem e_lreturn {x : Int64} : Ev G M d B (some .long) Q (.lreturn :: is) ls [.long x] h = Q (some (.long x)) h := propext (Ev_iff.trans ⟨fun ⟨_, e⟩ => e.2, fun e => ⟨0, rfl, e⟩⟩)
theorem e_areturn {x : Nat} {n : String} : Ev G M d B (some (.object n)) Q (.areturn :: is) ls [.ref x] h = Q (some (.ref x)) h := propext (Ev_iff.trans ⟨fun ⟨_, e⟩ => e.2, fun e => ⟨0, ⟨_, rfl, Or.inl ⟨_, rfl⟩⟩, e⟩⟩)
theorem e_areturnA {x : Nat} {n : FieldType} : Ev G M d B (some (.array n)) Q (.areturn :: is) ls [.ref x] h = Q (some (.ref x)) h := propext (Ev_iff.trans ⟨fun ⟨_, e⟩ => e.2, fun e => ⟨0, ⟨_, rfl, Or.inr ⟨_, rfl⟩⟩, e⟩⟩)
theorem e_areturnN {n : String} : Ev G M d B (some (.object n)) Q (.areturn :: is) ls [.null] h = Q (some .null) h := propext (Ev_iff.trans ⟨fun ⟨_, e⟩ => e.2, fun e => ⟨0, ⟨_, rfl, Or.inl ⟨_, rfl⟩⟩, e⟩⟩)
theorem e_return : Ev G M d B none Q (.return_ :: is) ls [] h = Q none h := propext (Ev_iff.trans ⟨fun ⟨_, e⟩ => e.2, fun e => ⟨0, rfl, e⟩⟩)
end EV
