section IT
variable {L d : Nat} {xs : Nat → Int32} {h : xH} {Q : xQ} {p o n : Nat} {x y z : Int32}
/-- a rule's signs, behind what they join -/
abbrev It : Type := (Nat ⊕ Nat) ⊕ (Unit ⊕ Nat)
def iOk (i : It) : Prop := match i with
  | .inl (.inl v) => v < 100000
  | .inl (.inr k) => k < 12
  | .inr (.inl _) => True
  | .inr (.inr k) => k < 12
def iC (i : It) : Nat := match i with
  | .inl (.inl v) => 32 + v
  | .inl (.inr k) => k
  | .inr (.inl _) => 22
  | .inr (.inr k) => cOp k
def iR (i : It) : Nat := match i with
  | .inl (.inl v) => 16 * v
  | .inl (.inr k) => 1 + 16 * k
  | .inr (.inl _) => 11
  | .inr (.inr k) => rOp k
def iV (i : It) : Nat := match i with
  | .inl (.inl _) => 1
  | .inl (.inr _) => 1
  | .inr (.inl _) => 0
  | .inr (.inr _) => 0
/-- stacks, the top first -/
def run1 (w : Nat → Int64) : It → List Int64 → Option (List Int64)
  | .inl (.inl v), l => some (lN v :: l)
  | .inl (.inr k), l => some (w k :: l)
  | .inr (.inl _), x :: l => some ((lN 1 - x) :: l)
  | .inr (.inr k), y :: x :: l => some (opF k x y :: l)
  | _, _ => none
def runL (w : Nat → Int64) : List It → List Int64 → Option (List Int64)
  | [], l => some l
  | i :: is, l => (run1 w i l).bind (runL w is)
/-- kinds of what lies on a stack: false a number, true a fact -/
def ty1 : It → List Bool → Option (List Bool)
  | .inl (.inl _), l => some (false :: l)
  | .inl (.inr _), l => some (false :: l)
  | .inr (.inl _), true :: l => some (true :: l)
  | .inr (.inr k), a :: b :: l => if k < 5 then (if a = false ∧ b = false then some (false :: l) else none) else if k < 10 then (if a = false ∧ b = false then some (true :: l) else none) else (if a = true ∧ b = true then some (true :: l) else none)
  | _, _ => none
def tyL : List It → List Bool → Option (List Bool)
  | [], l => some l
  | i :: is, l => (ty1 i l).bind (tyL is)
def Ty : List Int64 → List Bool → Prop
  | [], [] => True
  | v :: l, b :: t => (b = true → v = lN 0 ∨ v = lN 1) ∧ Ty l t
  | _, _ => False
theorem Ty.len : ∀ {l : List Int64} {t : List Bool}, Ty l t → l.length = t.length
  | [], [], _ => rfl
  | _ :: l, _ :: t, h => by rw [List.length_cons, List.length_cons, Ty.len h.2]
  | [], _ :: _, h => h.elim
  | _ :: _, [], h => h.elim
theorem opF_01 {k : Nat} {a b : Int64} (h5 : 5 ≤ k) (h10 : k < 10) : opF k a b = lN 0 ∨ opF k a b = lN 1 := by
  match k, h5, h10 with
  | 5, _, _ => simp only [opF]; split <;> simp
  | 6, _, _ => simp only [opF]; split <;> simp
  | 7, _, _ => simp only [opF]; split <;> simp
  | 8, _, _ => simp only [opF]; split <;> simp
  | 9, _, _ => simp only [opF]; split <;> simp
theorem opF_ao {k : Nat} {a b : Int64} (h10 : 10 ≤ k) (ha : a = lN 0 ∨ a = lN 1) (hb : b = lN 0 ∨ b = lN 1) : opF k a b = lN 0 ∨ opF k a b = lN 1 := by
  rcases ha with rfl | rfl <;> rcases hb with rfl | rfl
  all_goals
    by_cases e : k = 10
    · subst e; unfold opF; decide
    · have : opF k = opF 11 := by
        unfold opF
        match k, h10, e with
        | k + 11, _, _ => rfl
      rw [this]; unfold opF; decide
theorem run1_ty {w : Nat → Int64} {i : It} {l : List Int64} {t t' : List Bool} (hl : Ty l t) (ht : ty1 i t = some t') : ∃ l', run1 w i l = some l' ∧ Ty l' t' := by
  rcases i with (v | k) | (u | k)
  · cases ht; exact ⟨_, rfl, fun e => (by cases e), hl⟩
  · cases ht; exact ⟨_, rfl, fun e => (by cases e), hl⟩
  · match l, t, hl with
    | [], [], _ => cases ht
    | v :: l, false :: t, _ => cases ht
    | v :: l, true :: t, hl =>
      cases ht
      refine ⟨_, rfl, fun _ => ?_, hl.2⟩
      rcases hl.1 rfl with rfl | rfl
      · right; decide
      · left; decide
  · match l, t, hl with
    | [], [], _ => cases ht
    | [v], [b], _ => cases ht
    | v :: u :: l, b :: c :: t, hl =>
      obtain ⟨h1, h2, h3⟩ := hl
      refine ⟨_, rfl, ?_⟩
      simp only [ty1] at ht
      split at ht
      · split at ht
        · cases ht; exact ⟨fun e => (by cases e), h3⟩
        · cases ht
      · split at ht
        · split at ht
          · cases ht; exact ⟨fun _ => opF_01 (by omega) (by assumption), h3⟩
          · cases ht
        · split at ht
          · rename_i q
            cases ht; exact ⟨fun _ => opF_ao (by omega) (h2 q.2) (h1 q.1), h3⟩
          · cases ht
theorem runL_ty {w : Nat → Int64} : ∀ {is : List It} {l : List Int64} {t t' : List Bool}, Ty l t → tyL is t = some t' → ∃ l', runL w is l = some l' ∧ Ty l' t'
  | [], l, t, t', hl, ht => by cases ht; exact ⟨l, rfl, hl⟩
  | i :: is, l, t, t', hl, ht => by
    simp only [tyL] at ht
    cases h1 : ty1 i t with
    | none => rw [h1] at ht; cases ht
    | some t1 =>
      rw [h1] at ht
      obtain ⟨l1, g1, g2⟩ := run1_ty (w := w) hl h1
      obtain ⟨l2, g3, g4⟩ := runL_ty (w := w) g2 ht
      exact ⟨l2, by simp only [runL, g1]; exact g3, g4⟩
/-- a stack as the machine's row has it -/
def Stk (f : Nat → Int64) : List Int64 → Prop
  | [] => True
  | v :: l => f l.length = v ∧ Stk f l
theorem Stk.mono {f g : Nat → Int64} : ∀ {l : List Int64}, Stk f l → (∀ j, j < l.length → g j = f j) → Stk g l
  | [], _, _ => trivial
  | v :: l, h, e => ⟨by rw [e _ (by simp)]; exact h.1, h.2.mono fun j hj => e j (by rw [List.length_cons]; omega)⟩
theorem Stk.get0 {f : Nat → Int64} : ∀ {l : List Int64} {v : Int64}, Stk f (l ++ [v]) → f 0 = v
  | [], v, h => h.1
  | a :: l, v, h => Stk.get0 (l := l) h.2
/-- all but a row of longs is as it was -/
def JFr (st : Nat) (h h1 : xH) : Prop := h1.1 = h.1 ∧ h1.2.1 = h.2.1 ∧ xI h1 = xI h ∧ xR h1 = xR h ∧ ∀ a, a ≠ st → xJ h1 a = xJ h a
theorem JFr.rf {st : Nat} : JFr st h h := ⟨rfl, rfl, rfl, rfl, fun _ _ => rfl⟩
theorem JFr.tr {st : Nat} {a b c : xH} (h1 : JFr st a b) (h2 : JFr st b c) : JFr st a c := ⟨h2.1.trans h1.1, h2.2.1.trans h1.2.1, h2.2.2.1.trans h1.2.2.1, h2.2.2.2.1.trans h1.2.2.2.1, fun k hk => (h2.2.2.2.2 k hk).trans (h1.2.2.2.2 k hk)⟩
theorem JFr.set {st j : Nat} {v : Int64} : JFr st h (setJ h st j v) := ⟨rfl, rfl, rfl, rfl, fun a ha => by funext k; rw [xJ_sJ, if_neg (fun z => ha z.1)]⟩
theorem JFr.is {st : Nat} {h1 : xH} (hj : JFr st h h1) {a : Nat} {q : FieldType ⊕ Nat} (hq : xis h a q) : xis h1 a q := by unfold xis at *; rw [hj.1, hj.2.1]; exact hq
theorem JFr.ln {st : Nat} {h1 : xH} (hj : JFr st h h1) {a : Nat} : xlen h1 a = xlen h a := by unfold xlen; rw [hj.2.1]
theorem xJ_sJe {a j : Nat} {v : Int64} : xJ (setJ h a j v) a j = v := by rw [xJ_sJ, if_pos ⟨rfl, rfl⟩]
theorem xJ_sJn {a j k : Nat} {v : Int64} (e : k ≠ j) : xJ (setJ h a j v) a k = xJ h a k := by rw [xJ_sJ, if_neg (fun z => e z.2)]
end IT
