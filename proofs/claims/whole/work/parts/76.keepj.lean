section KJ
variable {h h1 h' : xH} {F F' : xQ → Prop}
/-! longs of objects that a call leaves as they were -/
def Kj (h h' : xH) : Prop := ∀ k c, xis h k (.inr c) → xis h' k (.inr c) ∧ xJ h' k = xJ h k
theorem Kj.rf (h : xH) : Kj h h := fun _ _ hk => ⟨hk, rfl⟩
theorem Kj.tr {a b c : xH} (h1 : Kj a b) (h2 : Kj b c) : Kj a c := fun k i hk => ⟨(h2 k i (h1 k i hk).1).1, ((h2 k i (h1 k i hk).1).2).trans (h1 k i hk).2⟩
def Dk (h : xH) (F : xQ → Prop) : Prop := ∀ Q, F Q → ∃ v h', Q v h' ∧ Kj h h'
theorem Dk.no (hF : ∀ Q, ¬ F Q) : Dk h F := fun Q q => absurd q (hF Q)
theorem Dk.and {A : Prop} (hF : A → Dk h F) : Dk h (fun Q => A ∧ F Q) := fun Q ⟨a, f⟩ => hF a Q f
theorem Dk.ret (v : Option Value) : Dk h (fun Q => Q v h) := fun _ q => ⟨v, h, q, Kj.rf h⟩
theorem Dk.up (hl : Kj h h1) (hF : Dk h1 F) : Dk h F := by
  intro Q f
  obtain ⟨v, h', q, l⟩ := hF Q f
  exact ⟨v, h', q, hl.tr l⟩
theorem Dk.if {c : Prop} [Decidable c] (hF : Dk h F) (hF' : Dk h F') : Dk h (fun Q => if c then F Q else F' Q) := by
  by_cases hc : c
  · simpa only [if_pos hc] using hF
  · simpa only [if_neg hc] using hF'
theorem Dk.ex {α : Type} {A : α → Prop} {F : α → xQ → Prop} (hF : ∀ a, A a → Dk h (F a)) : Dk h (fun Q => ∃ a, A a ∧ F a Q) := fun Q ⟨a, p, f⟩ => hF a p Q f
theorem Dk.call {K : xQ → Option Value → xH → Prop} (hF : Dk h F) (hK : ∀ v h1, Dk h1 (fun Q => K Q v h1)) : Dk h (fun Q => F (K Q)) := by
  intro Q f
  obtain ⟨v1, h1, q1, l1⟩ := hF (K Q) f
  obtain ⟨v, h', q, l⟩ := hK v1 h1 Q q1
  exact ⟨v, h', q, l1.tr l⟩
theorem Kj_new (h : xH) (k : (FieldType ⊕ Nat) × Nat) : Kj h (xnew h k) := by
  intro b c hb
  obtain ⟨hb1, hb2⟩ := hb
  have e : b ≠ h.1 := by omega
  refine ⟨⟨?_, ?_⟩, upr_ne e⟩
  · show b < h.1 + 1; omega
  · show (if b = h.1 then k else h.2.1 b).1 = _; rw [if_neg e]; exact hb2
theorem Kj_new2 (h : xH) (n1 n2 : Nat) : Kj h (xnew2 h n1 n2) := by
  intro b c hb
  obtain ⟨hb1, hb2⟩ := hb
  refine ⟨⟨?_, ?_⟩, rfl⟩
  · show b < h.1 + 1 + n1; omega
  · show (if b = h.1 then _ else if h.1 < b ∧ b < h.1 + 1 + n1 then _ else h.2.1 b).1 = _; rw [if_neg (by omega), if_neg (by omega)]; exact hb2
theorem Kj_same (h1 : h'.1 = h.1) (h2 : h'.2.1 = h.2.1) (h3 : h'.2.2.2.1 = h.2.2.2.1) : Kj h h' := by
  intro b c hb
  unfold xis xJ at *
  rw [h1, h2, h3]; exact ⟨hb, rfl⟩
theorem Kj_sJ {a j : Nat} {x : Int64} {ty : FieldType} (hc : xis h a (.inl ty)) : Kj h (setJ h a j x) := by
  intro b c hb
  refine ⟨hb, ?_⟩
  have e : b ≠ a := by
    intro e
    subst e
    have := hb.2.symm.trans hc.2
    cases this
  funext i
  show up2 h.2.2.2.1 a j x b i = h.2.2.2.1 b i
  unfold up2
  rw [if_neg (fun q => e q.1)]
def okI (S : List Nat) (i : Instr) : Bool := match i with
  | .dstore _ => false
  | .invokevirtual m => decide (m ∈ S)
  | .invokespecial m => decide (m ∈ S)
  | .invokestatic m => decide (m ∈ S)
  | _ => true
set_option maxHeartbeats 4000000 in
theorem xstep_dk {G : xG} {C : Nat → List Value → xH → xQ → Prop} {B : Nat → List Instr} {rt : Option FieldType} {S : List Nat} (hC : ∀ m, m ∈ S → ∀ as h, Dk h (C m as h)) (hB : ∀ t, (B t).all (okI S) = true) {K : xQ → List Instr → xL → List Value → xH → Prop} (hK : ∀ is ls st h, is.all (okI S) = true → Dk h (fun Q => K Q is ls st h)) (is : List Instr) (his : is.all (okI S) = true) (ls : xL) (st : List Value) (h : xH) : Dk h (fun Q => xstep G C B rt Q (K Q) is ls st h) := by
  cases is with
  | nil => exact Dk.no (fun Q q => q)
  | cons i is =>
    rw [List.all_cons, Bool.and_eq_true] at his
    obtain ⟨hi, his⟩ := his
    cases i <;> simp only [xstep] <;>
      first
      | exact absurd hi Bool.false_ne_true
      | exact Dk.no (fun Q q => q)
      | exact hK _ _ _ _ his
      | exact hK _ _ _ _ (hB _)
      | exact Dk.up (Kj_new _ _) (hK _ _ _ _ his)
      | exact Dk.and (fun _ => Dk.call (hC _ (of_decide_eq_true hi) _ _) (fun v h1 => hK _ _ _ _ his))
      | (split <;>
          first
          | exact Dk.no (fun Q q => q)
          | exact hK _ _ _ _ his
          | exact hK _ _ _ _ (hB _)
          | exact Dk.if (hK _ _ _ _ (hB _)) (hK _ _ _ _ his)
          | exact Dk.and (fun _ => hK _ _ _ _ his)
          | exact Dk.and (fun _ => Dk.call (hC _ (of_decide_eq_true hi) _ _) (fun v h1 => hK _ _ _ _ his))
          | exact Dk.and (fun _ => Dk.up (Kj_new _ _) (hK _ _ _ _ his))
          | exact Dk.and (fun _ => Dk.up (Kj_new2 _ _ _) (hK _ _ _ _ his))
          | exact Dk.and (fun _ => Dk.up (Kj_same rfl rfl rfl) (hK _ _ _ _ his))
          | exact Dk.and (fun _ => Dk.and (fun _ => Dk.up (Kj_same rfl rfl rfl) (hK _ _ _ _ his)))
          | exact Dk.ex (fun _ _ => Dk.up (Kj_same rfl rfl rfl) (hK _ _ _ _ his))
          | exact Dk.and (fun hc => Dk.up (Kj_sJ hc.1) (hK _ _ _ _ his))
          | exact Dk.and (fun _ => Dk.ret _))
theorem ev_dk {G : xG} {C : Nat → List Value → xH → xQ → Prop} {B : Nat → List Instr} {rt : Option FieldType} {S : List Nat} (hC : ∀ m, m ∈ S → ∀ as h, Dk h (C m as h)) (hB : ∀ t, (B t).all (okI S) = true) : ∀ (n : Nat) (is : List Instr) (ls : xL) (st : List Value) (h : xH), is.all (okI S) = true → Dk h (fun Q => ev G C B rt Q n is ls st h)
  | 0 => fun _ _ _ _ _ => Dk.no (fun _ q => q)
  | n + 1 => fun is ls st h his => xstep_dk (K := fun Q => ev G C B rt Q n) hC hB (fun is ls st h hi => ev_dk hC hB n is ls st h hi) is his ls st h
theorem Call_dk {G : xG} {M : xD} {S : List Nat} (hM : ∀ m, m ∈ S → ∀ t, ((M m).1 t).all (okI S) = true) : ∀ (d m : Nat), m ∈ S → ∀ (as : List Value) (h : xH), Dk h (Call G M d m as h)
  | 0 => fun _ _ _ _ => Dk.no (fun _ q => q)
  | d + 1 => fun m hm as h => by
    intro Q ⟨hl, n, f⟩
    exact ev_dk (Call_dk hM d) (hM m hm) n _ _ _ _ (hM m hm 0) Q f
theorem getD_all {p : Instr → Bool} : ∀ {L : List (List Instr)}, L.all (fun l => l.all p) = true → ∀ t, (L.getD t []).all p = true
  | [], _, t => by simp
  | a :: L, h, 0 => by rw [List.all_cons, Bool.and_eq_true] at h; exact h.1
  | a :: L, h, t + 1 => by rw [List.all_cons, Bool.and_eq_true] at h; exact getD_all h.2 t
/-- the days of the reference -/
def jS : List Nat := [231, 223, 205, 222, 219, 209, 221, 207, 206, 159, 220, 201, 198, 199, 200, 217, 218, 160, 208, 204, 203]
theorem jb_231 : ∀ t, (b231 t).all (okI jS) = true := fun t => getD_all (L := [b231_0, b231_1, b231_2]) (by decide +kernel) t
theorem jb_223 : ∀ t, (b223 t).all (okI jS) = true := fun t => getD_all (L := [b223_0, b223_1, b223_2, b223_3, b223_4, b223_5, b223_6, b223_7, b223_8]) (by decide +kernel) t
theorem jb_205 : ∀ t, (b205 t).all (okI jS) = true := fun t => getD_all (L := [b205_0, b205_1, b205_2]) (by decide +kernel) t
theorem jb_222 : ∀ t, (b222 t).all (okI jS) = true := fun t => getD_all (L := [b222_0, b222_1, b222_2, b222_3, b222_4, b222_5, b222_6, b222_7, b222_8]) (by decide +kernel) t
theorem jb_219 : ∀ t, (b219 t).all (okI jS) = true := fun t => getD_all (L := [b219_0, b219_1]) (by decide +kernel) t
theorem jb_209 : ∀ t, (b209 t).all (okI jS) = true := fun t => getD_all (L := [b209_0, b209_1, b209_2, b209_3]) (by decide +kernel) t
theorem jb_221 : ∀ t, (b221 t).all (okI jS) = true := fun t => getD_all (L := [b221_0, b221_1, b221_2, b221_3, b221_4, b221_5, b221_6, b221_7]) (by decide +kernel) t
theorem jb_207 : ∀ t, (b207 t).all (okI jS) = true := fun t => getD_all (L := [b207_0, b207_1, b207_2, b207_3]) (by decide +kernel) t
theorem jb_206 : ∀ t, (b206 t).all (okI jS) = true := fun t => getD_all (L := [b206_0]) (by decide +kernel) t
theorem jb_159 : ∀ t, (b159 t).all (okI jS) = true := fun t => getD_all (L := [b159_0, b159_1, b159_2]) (by decide +kernel) t
theorem jb_220 : ∀ t, (b220 t).all (okI jS) = true := fun t => getD_all (L := [b220_0, b220_1, b220_2, b220_3, b220_4]) (by decide +kernel) t
theorem jb_201 : ∀ t, (b201 t).all (okI jS) = true := fun t => getD_all (L := [b201_0, b201_1, b201_2, b201_3, b201_4, b201_5, b201_6]) (by decide +kernel) t
theorem jb_198 : ∀ t, (b198 t).all (okI jS) = true := fun t => getD_all (L := [b198_0]) (by decide +kernel) t
theorem jb_199 : ∀ t, (b199 t).all (okI jS) = true := fun t => getD_all (L := [b199_0]) (by decide +kernel) t
theorem jb_200 : ∀ t, (b200 t).all (okI jS) = true := fun t => getD_all (L := [b200_0, b200_1, b200_2, b200_3, b200_4, b200_5, b200_6, b200_7, b200_8, b200_9, b200_10, b200_11, b200_12, b200_13, b200_14, b200_15, b200_16, b200_17, b200_18, b200_19, b200_20, b200_21, b200_22, b200_23, b200_24, b200_25, b200_26]) (by decide +kernel) t
theorem jb_217 : ∀ t, (b217 t).all (okI jS) = true := fun t => getD_all (L := [b217_0]) (by decide +kernel) t
theorem jb_218 : ∀ t, (b218 t).all (okI jS) = true := fun t => getD_all (L := [b218_0]) (by decide +kernel) t
theorem jb_160 : ∀ t, (b160 t).all (okI jS) = true := fun t => getD_all (L := [b160_0, b160_1, b160_2]) (by decide +kernel) t
theorem jb_208 : ∀ t, (b208 t).all (okI jS) = true := fun t => getD_all (L := [b208_0, b208_1, b208_2]) (by decide +kernel) t
theorem jb_204 : ∀ t, (b204 t).all (okI jS) = true := fun t => getD_all (L := [b204_0]) (by decide +kernel) t
theorem jb_203 : ∀ t, (b203 t).all (okI jS) = true := fun t => getD_all (L := [b203_0, b203_1, b203_2]) (by decide +kernel) t
theorem jS_ok : ∀ m, m ∈ jS → ∀ t, ((pM m).1 t).all (okI jS) = true := by
  intro m hm
  simp only [jS, List.mem_cons, List.not_mem_nil, or_false] at hm
  rcases hm with rfl | rfl | rfl | rfl | rfl | rfl | rfl | rfl | rfl | rfl | rfl | rfl | rfl | rfl | rfl | rfl | rfl | rfl | rfl | rfl | rfl
  · exact jb_231
  · exact jb_223
  · exact jb_205
  · exact jb_222
  · exact jb_219
  · exact jb_209
  · exact jb_221
  · exact jb_207
  · exact jb_206
  · exact jb_159
  · exact jb_220
  · exact jb_201
  · exact jb_198
  · exact jb_199
  · exact jb_200
  · exact jb_217
  · exact jb_218
  · exact jb_160
  · exact jb_208
  · exact jb_204
  · exact jb_203
theorem call_J {L d m : Nat} {xs : Nat → Int32} {v : Option Value} {as : List Value} (hm : m ∈ jS) (hz : Bas h) (hc : ∀ Q, Call (pG L xs) pM d m as h Q = Q v h1) : xJ h1 127 = xJ h 127 := by
  obtain ⟨v', h', ⟨-, rfl⟩, hk⟩ := Call_dk (G := pG L xs) jS_ok d m hm as h (xeq v h1) (by rw [hc]; exact ⟨rfl, rfl⟩)
  exact (hk 127 12 (zs_127 hz)).2
theorem passes_J {L d : Nat} {xs : Nat → Int32} {v : Option Value} (hz : Bas h) (hc : ∀ Q, Call (pG L xs) pM d 223 [.ref 127] h Q = Q v h1) : xJ h1 127 = xJ h 127 := call_J (by decide) hz hc
theorem keeps_J {L d : Nat} {xs : Nat → Int32} {v : Option Value} (hz : Bas h) (hc : ∀ Q, Call (pG L xs) pM d 231 [.ref 127] h Q = Q v h1) : xJ h1 127 = xJ h 127 := call_J (by decide) hz hc
end KJ
