section FT
variable {L : Nat} {xs : Nat → Int32} {x : Int32}
theorem pn_0 : (pG L xs).1 0 = 2 := rfl
theorem ps_0 : (pG L xs).2.2.2.2.1 0 = "RankFord$Days" := rfl
theorem f1_2 : xfit ((pG L xs).2.2.2.1 1 2) x = True := rfl
theorem pn_1 : (pG L xs).1 1 = 3 := rfl
theorem ps_1 : (pG L xs).2.2.2.2.1 1 = "RankFord$FordReader" := rfl
theorem f2_4 : xfit ((pG L xs).2.2.2.1 2 4) x = True := rfl
theorem pn_2 : (pG L xs).1 2 = 5 := rfl
theorem ps_2 : (pG L xs).2.2.2.2.1 2 = "RankFord$Guess" := rfl
theorem f3_1 : xfit ((pG L xs).2.2.2.1 3 1) x = True := rfl
theorem f3_2 : xfit ((pG L xs).2.2.2.1 3 2) x = True := rfl
theorem pn_3 : (pG L xs).1 3 = 3 := rfl
theorem ps_3 : (pG L xs).2.2.2.2.1 3 = "RankFord$History" := rfl
theorem f4_0 : xfit ((pG L xs).2.2.2.1 4 0) x = True := rfl
theorem f4_1 : xfit ((pG L xs).2.2.2.1 4 1) x = True := rfl
theorem f4_6 : xfit ((pG L xs).2.2.2.1 4 6) x = True := rfl
theorem pn_4 : (pG L xs).1 4 = 9 := rfl
theorem ps_4 : (pG L xs).2.2.2.2.1 4 = "RankFord$Plans" := rfl
theorem f5_2 : xfit ((pG L xs).2.2.2.1 5 2) x = (x = 0 ∨ x = 1) := rfl
theorem pn_5 : (pG L xs).1 5 = 3 := rfl
theorem ps_5 : (pG L xs).2.2.2.2.1 5 = "RankFord$Rule" := rfl
theorem f6_1 : xfit ((pG L xs).2.2.2.1 6 1) x = True := rfl
theorem f6_3 : xfit ((pG L xs).2.2.2.1 6 3) x = True := rfl
theorem f6_4 : xfit ((pG L xs).2.2.2.1 6 4) x = True := rfl
theorem f6_5 : xfit ((pG L xs).2.2.2.1 6 5) x = True := rfl
theorem f6_6 : xfit ((pG L xs).2.2.2.1 6 6) x = True := rfl
theorem f6_7 : xfit ((pG L xs).2.2.2.1 6 7) x = True := rfl
theorem f6_8 : xfit ((pG L xs).2.2.2.1 6 8) x = True := rfl
theorem f6_9 : xfit ((pG L xs).2.2.2.1 6 9) x = True := rfl
theorem f6_10 : xfit ((pG L xs).2.2.2.1 6 10) x = True := rfl
theorem pn_6 : (pG L xs).1 6 = 11 := rfl
theorem ps_6 : (pG L xs).2.2.2.2.1 6 = "RankFord$RuleReader" := rfl
theorem f7_0 : xfit ((pG L xs).2.2.2.1 7 0) x = (x = 0 ∨ x = 1) := rfl
theorem f7_6 : xfit ((pG L xs).2.2.2.1 7 6) x = True := rfl
theorem f7_7 : xfit ((pG L xs).2.2.2.1 7 7) x = True := rfl
theorem f7_8 : xfit ((pG L xs).2.2.2.1 7 8) x = True := rfl
theorem pn_7 : (pG L xs).1 7 = 9 := rfl
theorem ps_7 : (pG L xs).2.2.2.2.1 7 = "RankFord$Scene" := rfl
theorem f8_1 : xfit ((pG L xs).2.2.2.1 8 1) x = True := rfl
theorem f8_2 : xfit ((pG L xs).2.2.2.1 8 2) x = True := rfl
theorem f8_3 : xfit ((pG L xs).2.2.2.1 8 3) x = True := rfl
theorem f8_4 : xfit ((pG L xs).2.2.2.1 8 4) x = True := rfl
theorem f8_5 : xfit ((pG L xs).2.2.2.1 8 5) x = True := rfl
theorem pn_8 : (pG L xs).1 8 = 6 := rfl
theorem ps_8 : (pG L xs).2.2.2.2.1 8 = "RankFord$Tape" := rfl
theorem f9_0 : xfit ((pG L xs).2.2.2.1 9 0) x = True := rfl
theorem f9_1 : xfit ((pG L xs).2.2.2.1 9 1) x = True := rfl
theorem f9_2 : xfit ((pG L xs).2.2.2.1 9 2) x = True := rfl
theorem f9_3 : xfit ((pG L xs).2.2.2.1 9 3) x = True := rfl
theorem f9_4 : xfit ((pG L xs).2.2.2.1 9 4) x = True := rfl
theorem pn_9 : (pG L xs).1 9 = 9 := rfl
theorem ps_9 : (pG L xs).2.2.2.2.1 9 = "RankFord$Trials" := rfl
theorem f10_0 : xfit ((pG L xs).2.2.2.1 10 0) x = (x = 0 ∨ x = 1) := rfl
theorem f10_1 : xfit ((pG L xs).2.2.2.1 10 1) x = True := rfl
theorem f10_2 : xfit ((pG L xs).2.2.2.1 10 2) x = True := rfl
theorem f10_3 : xfit ((pG L xs).2.2.2.1 10 3) x = True := rfl
theorem f10_4 : xfit ((pG L xs).2.2.2.1 10 4) x = True := rfl
theorem f10_5 : xfit ((pG L xs).2.2.2.1 10 5) x = True := rfl
theorem pn_10 : (pG L xs).1 10 = 7 := rfl
theorem ps_10 : (pG L xs).2.2.2.2.1 10 = "RankFord$World" := rfl
theorem f11_4 : xfit ((pG L xs).2.2.2.1 11 4) x = True := rfl
theorem pn_11 : (pG L xs).1 11 = 12 := rfl
theorem ps_11 : (pG L xs).2.2.2.2.1 11 = "RankFord" := rfl
theorem f12_1 : xfit ((pG L xs).2.2.2.1 12 1) x = True := rfl
theorem f12_2 : xfit ((pG L xs).2.2.2.1 12 2) x = True := rfl
theorem f12_8 : xfit ((pG L xs).2.2.2.1 12 8) x = True := rfl
theorem f12_9 : xfit ((pG L xs).2.2.2.1 12 9) x = True := rfl
theorem f12_10 : xfit ((pG L xs).2.2.2.1 12 10) x = True := rfl
theorem f12_11 : xfit ((pG L xs).2.2.2.1 12 11) x = True := rfl
theorem f12_12 : xfit ((pG L xs).2.2.2.1 12 12) x = True := rfl
theorem f12_13 : xfit ((pG L xs).2.2.2.1 12 13) x = True := rfl
theorem f12_14 : xfit ((pG L xs).2.2.2.1 12 14) x = True := rfl
theorem f12_16 : xfit ((pG L xs).2.2.2.1 12 16) x = True := rfl
theorem f12_18 : xfit ((pG L xs).2.2.2.1 12 18) x = True := rfl
theorem f12_21 : xfit ((pG L xs).2.2.2.1 12 21) x = True := rfl
theorem f12_22 : xfit ((pG L xs).2.2.2.1 12 22) x = True := rfl
theorem f12_25 : xfit ((pG L xs).2.2.2.1 12 25) x = True := rfl
theorem f12_30 : xfit ((pG L xs).2.2.2.1 12 30) x = True := rfl
theorem f12_31 : xfit ((pG L xs).2.2.2.1 12 31) x = True := rfl
theorem pn_12 : (pG L xs).1 12 = 43 := rfl
theorem ps_12 : (pG L xs).2.2.2.2.1 12 = "RankFordModel" := rfl
end FT
theorem ofI (n : Nat) : Int32.ofInt (.ofNat n) = nI n := rfl
theorem ofIm (n : Nat) : Int32.ofInt (.negSucc n) = -(nI (n + 1)) := by rw [show Int.negSucc n = -((n + 1 : Nat) : Int) from rfl, Int32.ofInt_neg]; rfl
theorem ofJ (n : Nat) : Int64.ofInt (.ofNat n) = lN n := rfl
theorem cat_i (x : Int32) : (Value.int x).category = 1 := rfl
theorem cat_l (x : Int64) : (Value.long x).category = 2 := rfl
theorem cat_r (x : Nat) : (Value.ref x).category = 1 := rfl
theorem cat_f (x : UInt32) : (Value.float x).category = 1 := rfl
theorem cat_n : Value.null.category = 1 := rfl
theorem xent_0 : xent [] = [] := rfl
theorem xent_i (x : Int32) (vs : List Value) : xent (.int x :: vs) = some (.int x) :: xent vs := rfl
theorem xent_l (x : Int64) (vs : List Value) : xent (.long x :: vs) = some (.long x) :: none :: xent vs := rfl
theorem xent_r (x : Nat) (vs : List Value) : xent (.ref x :: vs) = some (.ref x) :: xent vs := rfl
theorem xent_n (vs : List Value) : xent (.null :: vs) = some .null :: xent vs := rfl
theorem xent_f (x : UInt32) (vs : List Value) : xent (.float x :: vs) = some (.float x) :: xent vs := rfl
theorem xrf_s (a : Nat) : xrf (some a) = .ref a := rfl
theorem xrf_n : xrf none = .null := rfl
section SH
variable {h : xH} {a b j k : Nat} {x : Int32} {y : Int64} {r : Option Nat} {g : Nat → Int32} {q : FieldType ⊕ Nat}
theorem xis_sI : xis (setI h a j x) b q = xis h b q := rfl
theorem xis_sJ : xis (setJ h a j y) b q = xis h b q := rfl
theorem xis_sR : xis (setR h a j r) b q = xis h b q := rfl
theorem xis_ro : xis (rowI h a g) b q = xis h b q := rfl
theorem xlen_sI : xlen (setI h a j x) b = xlen h b := rfl
theorem xlen_sJ : xlen (setJ h a j y) b = xlen h b := rfl
theorem xlen_sR : xlen (setR h a j r) b = xlen h b := rfl
theorem xlen_ro : xlen (rowI h a g) b = xlen h b := rfl
theorem xI_sI : xI (setI h a j x) b k = if b = a ∧ k = j then x else xI h b k := rfl
theorem xI_sJ : xI (setJ h a j y) = xI h := rfl
theorem xI_sR : xI (setR h a j r) = xI h := rfl
theorem xI_ro : xI (rowI h a g) b = if b = a then g else xI h b := rfl
theorem xJ_sI : xJ (setI h a j x) = xJ h := rfl
theorem xJ_sJ : xJ (setJ h a j y) b k = if b = a ∧ k = j then y else xJ h b k := rfl
theorem xJ_sR : xJ (setR h a j r) = xJ h := rfl
theorem xJ_ro : xJ (rowI h a g) = xJ h := rfl
theorem xR_sI : xR (setI h a j x) = xR h := rfl
theorem xR_sJ : xR (setJ h a j y) = xR h := rfl
theorem xR_sR : xR (setR h a j r) b k = if b = a ∧ k = j then r else xR h b k := rfl
theorem xR_ro : xR (rowI h a g) = xR h := rfl
end SH
set_option maxHeartbeats 4000000 in
theorem xstep_un {G : xG} {C : Nat → List Value → xH → xQ → Prop} {B : Nat → List Instr} {rt : Option FieldType} {Q1 Q2 : xQ} {R : Prop} (hC : ∀ m as h (P1 P2 : xQ), C m as h P1 → C m as h P2 → ∃ v h', P1 v h' ∧ P2 v h') {K1 K2 : List Instr → xL → List Value → xH → Prop} (hK : ∀ is ls st h, K1 is ls st h → K2 is ls st h → R) (hQ : ∀ v h, Q1 v h → Q2 v h → R) (is : List Instr) (ls : xL) (st : List Value) (h : xH) (e1 : xstep G C B rt Q1 K1 is ls st h) (e2 : xstep G C B rt Q2 K2 is ls st h) : R := by
  have hcall : ∀ m as (f : Option Value → xH → List Value) is ls, C m as h (fun v h' => K1 is ls (f v h') h') → C m as h (fun v h' => K2 is ls (f v h') h') → R := by
    intro m as f is ls c1 c2
    obtain ⟨v, h', k1, k2⟩ := hC m as h _ _ c1 c2
    exact hK _ _ _ _ k1 k2
  cases is with
  | nil => exact absurd e1 id
  | cons i is =>
    cases i <;> simp only [xstep] at e1 e2 <;>
      first
      | exact absurd e1 id
      | exact hK _ _ _ _ e1 e2
      | exact hcall _ _ (fun v _ => v.toList ++ _) _ _ e1.2 e2.2
      | (split at e1 <;>
          first
          | exact absurd e1 id
          | exact hK _ _ _ _ e1 e2
          | exact hK _ _ _ _ e1.2 e2.2
          | exact hK _ _ _ _ e1.2.2 e2.2.2
          | exact hQ _ _ e1.2 e2.2
          | (rename_i q; simp only [q] at e2; exact hK _ _ _ _ e1 e2)
          | (rename_i q; simp only [q] at e2; exact hcall _ _ (fun v _ => v.toList ++ _) _ _ e1.2 e2.2)
          | (dsimp only at e2; split at e1 <;> split at e2 <;> first | exact hK _ _ _ _ e1 e2 | contradiction)
          | (obtain ⟨ty, ⟨g1, _, _⟩, k1⟩ := e1
             obtain ⟨ty2, ⟨g2, _, _⟩, k2⟩ := e2
             have q : ty = ty2 := Sum.inl.inj (g1.2.symm.trans g2.2)
             subst q
             exact hK _ _ _ _ k1 k2))
theorem ev_un {G : xG} {C : Nat → List Value → xH → xQ → Prop} {B : Nat → List Instr} {rt : Option FieldType} {Q1 Q2 : xQ} (hC : ∀ m as h (P1 P2 : xQ), C m as h P1 → C m as h P2 → ∃ v h', P1 v h' ∧ P2 v h') : ∀ (n k : Nat) (is : List Instr) (ls : xL) (st : List Value) (h : xH), ev G C B rt Q1 n is ls st h → ev G C B rt Q2 k is ls st h → ∃ v h', Q1 v h' ∧ Q2 v h'
  | 0, _, _, _, _, _, e1, _ => absurd e1 id
  | _ + 1, 0, _, _, _, _, _, e2 => absurd e2 id
  | n + 1, k + 1, is, ls, st, h, e1, e2 => xstep_un hC (fun is ls st h a b => ev_un hC n k is ls st h a b) (fun v h a b => ⟨v, h, a, b⟩) is ls st h e1 e2
theorem Call_un (G : xG) (M : xD) : ∀ (d m : Nat) (as : List Value) (h : xH) (P1 P2 : xQ), Call G M d m as h P1 → Call G M d m as h P2 → ∃ v h', P1 v h' ∧ P2 v h'
  | 0, _, _, _, _, _, c1, _ => absurd c1 id
  | d + 1, m, as, h, P1, P2, ⟨_, n, e1⟩, ⟨_, k, e2⟩ => ev_un (Call_un G M d) n k _ _ _ _ e1 e2
/-- one answer known, all known -/
theorem Call_eq {G : xG} {M : xD} {d m : Nat} {as : List Value} {h h' : xH} {v : Option Value} (e : Call G M d m as h (xeq v h')) (Q : xQ) : Call G M d m as h Q = Q v h' := by
  obtain ⟨v1, h1, ⟨e1, e2⟩, -, r⟩ := Call_dt G M d m as h _ e
  subst e1; subst e2
  refine propext ⟨fun c => ?_, fun q => r Q q⟩
  obtain ⟨v2, h2, q, a1, a2⟩ := Call_un G M d m as h _ _ c e
  subst a1; subst a2
  exact q

