/-- one answer, which grows the heap: from h on -/
def Dt (h : xH) (F : xQ → Prop) : Prop := ∀ Q, F Q → ∃ v h', Q v h' ∧ xle h h' ∧ ∀ Q' : xQ, Q' v h' → F Q'
theorem Dt.no {h : xH} {F : xQ → Prop} (hF : ∀ Q, ¬ F Q) : Dt h F := fun Q q => absurd q (hF Q)
theorem Dt.and {h : xH} {A : Prop} {F : xQ → Prop} (hF : A → Dt h F) : Dt h (fun Q => A ∧ F Q) := by
  intro Q ⟨a, f⟩
  obtain ⟨v, h', q, l, r⟩ := hF a Q f
  exact ⟨v, h', q, l, fun Q' q' => ⟨a, r Q' q'⟩⟩
theorem Dt.ret {h : xH} (v : Option Value) : Dt h (fun Q => Q v h) := fun _ q => ⟨v, h, q, xle.rf h, fun _ q' => q'⟩
theorem Dt.up {h h1 : xH} {F : xQ → Prop} (hl : xle h h1) (hF : Dt h1 F) : Dt h F := by
  intro Q f
  obtain ⟨v, h', q, l, r⟩ := hF Q f
  exact ⟨v, h', q, hl.tr l, r⟩
theorem Dt.if {h : xH} {c : Prop} [Decidable c] {F F' : xQ → Prop} (hF : Dt h F) (hF' : Dt h F') : Dt h (fun Q => if c then F Q else F' Q) := by
  by_cases hc : c
  · simpa only [if_pos hc] using hF
  · simpa only [if_neg hc] using hF'
theorem Dt.ex {h : xH} {α : Type} {A : α → Prop} {F : α → xQ → Prop} (hF : ∀ a, Dt h (F a)) : Dt h (fun Q => ∃ a, A a ∧ F a Q) := by
  intro Q ⟨a, p, f⟩
  obtain ⟨v, h', q, l, r⟩ := hF a Q f
  exact ⟨v, h', q, l, fun Q' q' => ⟨a, p, r Q' q'⟩⟩
theorem Dt.call {h : xH} {F : xQ → Prop} {K : xQ → Option Value → xH → Prop} (hF : Dt h F) (hK : ∀ v h1, Dt h1 (fun Q => K Q v h1)) : Dt h (fun Q => F (K Q)) := by
  intro Q f
  obtain ⟨v1, h1, q1, l1, r1⟩ := hF (K Q) f
  obtain ⟨v, h', q, l, r⟩ := hK v1 h1 Q q1
  exact ⟨v, h', q, l1.tr l, fun Q' q' => r1 (K Q') (r Q' q')⟩
set_option maxHeartbeats 4000000 in
theorem xstep_dt {G : xG} {C : Nat → List Value → xH → xQ → Prop} {B : Nat → List Instr} {rt : Option FieldType} (hC : ∀ m as h, Dt h (C m as h)) {K : xQ → List Instr → xL → List Value → xH → Prop} (hK : ∀ is ls st h, Dt h (fun Q => K Q is ls st h)) (is : List Instr) (ls : xL) (st : List Value) (h : xH) : Dt h (fun Q => xstep G C B rt Q (K Q) is ls st h) := by
  cases is with
  | nil => exact Dt.no (fun Q q => q)
  | cons i is =>
    cases i <;> simp only [xstep] <;>
      first
      | exact Dt.no (fun Q q => q)
      | exact hK _ _ _ _
      | exact Dt.up (xle_new _ _) (hK _ _ _ _)
      | exact Dt.and (fun _ => Dt.call (hC _ _ _) (fun v h1 => hK _ _ _ _))
      | (split <;>
          first
          | exact Dt.no (fun Q q => q)
          | exact hK _ _ _ _
          | exact Dt.and (fun _ => hK _ _ _ _)
          | exact Dt.if (hK _ _ _ _) (hK _ _ _ _)
          | exact Dt.and (fun _ => Dt.call (hC _ _ _) (fun v h1 => hK _ _ _ _))
          | exact Dt.and (fun _ => Dt.up (xle_new _ _) (hK _ _ _ _))
          | exact Dt.and (fun _ => Dt.up (xle_new2 _ _ _) (hK _ _ _ _))
          | exact Dt.and (fun _ => Dt.up (xle_same rfl rfl) (hK _ _ _ _))
          | exact Dt.and (fun _ => Dt.and (fun _ => Dt.up (xle_same rfl rfl) (hK _ _ _ _)))
          | exact Dt.ex (fun _ => Dt.up (xle_same rfl rfl) (hK _ _ _ _))
          | exact Dt.and (fun _ => Dt.ret _))
theorem ev_dt {G : xG} {C : Nat → List Value → xH → xQ → Prop} {B : Nat → List Instr} {rt : Option FieldType} (hC : ∀ m as h, Dt h (C m as h)) : ∀ (n : Nat) (is : List Instr) (ls : xL) (st : List Value) (h : xH), Dt h (fun Q => ev G C B rt Q n is ls st h)
  | 0 => fun _ _ _ _ => Dt.no (fun _ q => q)
  | n + 1 => fun is ls st h => xstep_dt (K := fun Q => ev G C B rt Q n) hC (fun is ls st h => ev_dt hC n is ls st h) is ls st h
theorem Call_dt (G : xG) (M : xD) : ∀ (d m : Nat) (as : List Value) (h : xH), Dt h (Call G M d m as h)
  | 0 => fun _ _ _ => Dt.no (fun _ q => q)
  | d + 1 => fun m as h => by
    intro Q ⟨hl, n, f⟩
    obtain ⟨v, h', q, l, r⟩ := ev_dt (Call_dt G M d) n _ _ _ _ Q f
    exact ⟨v, h', q, l, fun Q' q' => ⟨hl, n, r Q' q'⟩⟩
/-- the one answer, and its heap -/
def xeq (v : Option Value) (h : xH) : xQ := fun v2 h2 => v2 = v ∧ h2 = h
theorem ev_le {G : xG} {M : xD} {d : Nat} {B : Nat → List Instr} {rt : Option FieldType} {n : Nat} {is : List Instr} {ls : xL} {st : List Value} {h h' : xH} {v : Option Value} (e : ev G (Call G M d) B rt (xeq v h') n is ls st h) : xle h h' := by
  obtain ⟨v2, h2, ⟨q1, q2⟩, l, -⟩ := ev_dt (Call_dt G M d) n is ls st h _ e
  rw [← q2]; exact l
