/-! what a cell is, it stays -/
def xss (h h' : xH) : Prop := h.1 ≤ h'.1 ∧ ∀ a, a < h.1 → h'.2.1 a = h.2.1 a
theorem xss.rf (h : xH) : xss h h := ⟨Nat.le_refl _, fun _ _ => rfl⟩
theorem xss.tr {a b c : xH} (h1 : xss a b) (h2 : xss b c) : xss a c := ⟨Nat.le_trans h1.1 h2.1, fun k hk => (h2.2 k (Nat.lt_of_lt_of_le hk h1.1)).trans (h1.2 k hk)⟩
theorem xss_new (h : xH) (k : (FieldType ⊕ Nat) × Nat) : xss h (xnew h k) := ⟨Nat.le_succ _, fun a ha => by show (if a = h.1 then k else h.2.1 a) = _; rw [if_neg (by omega)]⟩
theorem xss_same {h h' : xH} (h1 : h'.1 = h.1) (h2 : h'.2.1 = h.2.1) : xss h h' := ⟨by rw [h1]; exact Nat.le_refl _, fun a _ => by rw [h2]⟩
theorem xss_new2 (h : xH) (n1 n2 : Nat) : xss h (xnew2 h n1 n2) := ⟨by show h.1 ≤ h.1 + 1 + n1; omega, fun a ha => by show (if a = h.1 then _ else if h.1 < a ∧ a < h.1 + 1 + n1 then _ else h.2.1 a) = _; rw [if_neg (by omega), if_neg (by omega)]⟩
def Ds (h : xH) (F : xQ → Prop) : Prop := ∀ Q, F Q → ∃ v h', Q v h' ∧ xss h h'
theorem Ds.no {h : xH} {F : xQ → Prop} (hF : ∀ Q, ¬ F Q) : Ds h F := fun Q q => absurd q (hF Q)
theorem Ds.and {h : xH} {A : Prop} {F : xQ → Prop} (hF : A → Ds h F) : Ds h (fun Q => A ∧ F Q) := fun Q ⟨a, f⟩ => hF a Q f
theorem Ds.ret {h : xH} (v : Option Value) : Ds h (fun Q => Q v h) := fun _ q => ⟨v, h, q, xss.rf h⟩
theorem Ds.up {h h1 : xH} {F : xQ → Prop} (hl : xss h h1) (hF : Ds h1 F) : Ds h F := by
  intro Q f
  obtain ⟨v, h', q, l⟩ := hF Q f
  exact ⟨v, h', q, hl.tr l⟩
theorem Ds.if {h : xH} {c : Prop} [Decidable c] {F F' : xQ → Prop} (hF : Ds h F) (hF' : Ds h F') : Ds h (fun Q => if c then F Q else F' Q) := by
  by_cases hc : c
  · simpa only [if_pos hc] using hF
  · simpa only [if_neg hc] using hF'
theorem Ds.ex {h : xH} {α : Type} {A : α → Prop} {F : α → xQ → Prop} (hF : ∀ a, Ds h (F a)) : Ds h (fun Q => ∃ a, A a ∧ F a Q) := fun Q ⟨a, _, f⟩ => hF a Q f
theorem Ds.call {h : xH} {F : xQ → Prop} {K : xQ → Option Value → xH → Prop} (hF : Ds h F) (hK : ∀ v h1, Ds h1 (fun Q => K Q v h1)) : Ds h (fun Q => F (K Q)) := by
  intro Q f
  obtain ⟨v1, h1, q1, l1⟩ := hF (K Q) f
  obtain ⟨v, h', q, l⟩ := hK v1 h1 Q q1
  exact ⟨v, h', q, l1.tr l⟩
set_option maxHeartbeats 4000000 in
theorem xstep_ds {G : xG} {C : Nat → List Value → xH → xQ → Prop} {B : Nat → List Instr} {rt : Option FieldType} (hC : ∀ m as h, Ds h (C m as h)) {K : xQ → List Instr → xL → List Value → xH → Prop} (hK : ∀ is ls st h, Ds h (fun Q => K Q is ls st h)) (is : List Instr) (ls : xL) (st : List Value) (h : xH) : Ds h (fun Q => xstep G C B rt Q (K Q) is ls st h) := by
  cases is with
  | nil => exact Ds.no (fun Q q => q)
  | cons i is =>
    cases i <;> simp only [xstep] <;>
      first
      | exact Ds.no (fun Q q => q)
      | exact hK _ _ _ _
      | exact Ds.up (xss_new _ _) (hK _ _ _ _)
      | exact Ds.and (fun _ => Ds.call (hC _ _ _) (fun v h1 => hK _ _ _ _))
      | (split <;>
          first
          | exact Ds.no (fun Q q => q)
          | exact hK _ _ _ _
          | exact Ds.and (fun _ => hK _ _ _ _)
          | exact Ds.if (hK _ _ _ _) (hK _ _ _ _)
          | exact Ds.and (fun _ => Ds.call (hC _ _ _) (fun v h1 => hK _ _ _ _))
          | exact Ds.and (fun _ => Ds.up (xss_new _ _) (hK _ _ _ _))
          | exact Ds.and (fun _ => Ds.up (xss_new2 _ _ _) (hK _ _ _ _))
          | exact Ds.and (fun _ => Ds.up (xss_same rfl rfl) (hK _ _ _ _))
          | exact Ds.and (fun _ => Ds.and (fun _ => Ds.up (xss_same rfl rfl) (hK _ _ _ _)))
          | exact Ds.ex (fun _ => Ds.up (xss_same rfl rfl) (hK _ _ _ _))
          | exact Ds.and (fun _ => Ds.ret _))
theorem ev_ds {G : xG} {C : Nat → List Value → xH → xQ → Prop} {B : Nat → List Instr} {rt : Option FieldType} (hC : ∀ m as h, Ds h (C m as h)) : ∀ (n : Nat) (is : List Instr) (ls : xL) (st : List Value) (h : xH), Ds h (fun Q => ev G C B rt Q n is ls st h)
  | 0 => fun _ _ _ _ => Ds.no (fun _ q => q)
  | n + 1 => fun is ls st h => xstep_ds (K := fun Q => ev G C B rt Q n) hC (fun is ls st h => ev_ds hC n is ls st h) is ls st h
theorem Call_ds (G : xG) (M : xD) : ∀ (d m : Nat) (as : List Value) (h : xH), Ds h (Call G M d m as h)
  | 0 => fun _ _ _ => Ds.no (fun _ q => q)
  | d + 1 => fun m as h => by
    intro Q ⟨hl, n, f⟩
    exact ev_ds (Call_ds G M d) n _ _ _ _ Q f
theorem Call_is {L d m : Nat} {xs : Nat → Int32} {as : List Value} {h h1 : xH} {v : Option Value} {a : Nat} {q : FieldType ⊕ Nat} (hc : ∀ Q, Call (pG L xs) pM d m as h Q = Q v h1) (hq : xis h a q) : xis h1 a q := by
  obtain ⟨v2, h2, q2, l⟩ := Call_ds (pG L xs) pM d m as h (xeq v h1) (by rw [hc]; exact ⟨rfl, rfl⟩)
  obtain ⟨e1, e2⟩ := q2
  subst e2
  exact ⟨Nat.lt_of_lt_of_le hq.1 l.1, by rw [l.2 a hq.1]; exact hq.2⟩
