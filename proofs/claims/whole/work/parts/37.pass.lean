section PS
variable {L d : Nat} {xs : Nat → Int32} {h : xH} {Q : xQ} {p o n w t D wd cA : Nat} {x y z : Int32}
theorem lN_ltI {a b : Nat} (ha : a < 2 ^ 31) (hb : b < 2 ^ 31) : (lN a < lN b) = (a < b) := by
  refine propext ?_
  rw [Int64.lt_iff_toInt_lt, lN_toInt ha, lN_toInt hb]
  omega
/-- without a rule both ways of choosing are one -/
theorem ch_stay {can : Nat → Bool} {s : Nat → Int32} {f : Nat → Nat} (hf : ∀ o, o < 6 → f o ≤ 9 ∧ s (61 + o) = nI (f o)) : ∀ k j, j + k ≤ 6 → forF (chS can (sum0 s p) p) (j + 1) k (some p, lN 100) = (some p, lN 100) := by
  intro k
  induction k with
  | zero => intro j _; rfl
  | succ k ih =>
    intro j hj
    obtain ⟨f1, f2⟩ := hf j (by omega)
    have e : chS can (sum0 s p) p (j + 1) (some p, lN 100) = (some p, lN 100) := by
      unfold chS
      by_cases q : j = p
      · simp [q]
      · simp only [Nat.add_sub_cancel, Nat.succ_ne_zero, if_false, q, and_false]
        have e2 : sum0 s p j = lN (10 - f j) := by
          unfold sum0
          rw [if_neg (fun z => q z.symm), f2, nI_l (by omega), lN_sub (by omega)]
        have r9 : ¬ lN 100 < lN (10 - f j) := by rw [lN_ltI (by omega) (by omega)]; omega
        simp only [e2, r9, if_false]
        split <;> rfl
    rw [forF, e, ih (j + 1) (by omega)]
theorem ch_pl {can : Nat → Bool} {s : Nat → Int32} {f : Nat → Nat} (hf : ∀ o, o < 6 → f o ≤ 9 ∧ s (61 + o) = nI (f o)) : ∀ k j best most, j + k ≤ 6 → (∀ b, best = some b → b < 6 ∧ most = lN (10 - f b)) → (best = none → most = lN 0) → (forF (chS can (sum0 s p) p) (j + 1) k (best, most)).1 = forF (plF can (fun o => s (61 + o)) p) j k best := by
  intro k
  induction k with
  | zero => intro j best most _ _ _; rfl
  | succ k ih =>
    intro j best most hj h1 h2
    obtain ⟨f1, f2⟩ := hf j (by omega)
    rw [forF, forF]
    by_cases q : j = p
    · have e1 : chS can (sum0 s p) p (j + 1) (best, most) = (best, most) := by unfold chS; simp [q]
      have e2 : plF can (fun o => s (61 + o)) p j best = best := by unfold plF; simp [q]
      rw [e1, e2]
      exact ih (j + 1) best most (by omega) h1 h2
    · have e0 : sum0 s p j = lN (10 - f j) := by
        unfold sum0
        rw [if_neg (fun z => q z.symm), f2, nI_l (by omega), lN_sub (by omega)]
      cases hc : can j
      · have e1 : chS can (sum0 s p) p (j + 1) (best, most) = (best, most) := by unfold chS; simp [q, hc]
        have e2 : plF can (fun o => s (61 + o)) p j best = best := by unfold plF; simp [q, hc]
        rw [e1, e2]
        exact ih (j + 1) best most (by omega) h1 h2
      · have e1 : chS can (sum0 s p) p (j + 1) (best, most) = if most < lN (10 - f j) then (some j, lN (10 - f j)) else (best, most) := by
          unfold chS
          simp only [Nat.add_sub_cancel, Nat.succ_ne_zero, if_false, q, and_false, hc, Bool.true_eq_false, e0]
        rw [e1]
        cases best with
        | none =>
          have e2 : plF can (fun o => s (61 + o)) p j none = some j := by unfold plF; simp [q, hc]
          rw [e2, h2 rfl, if_pos (by rw [lN_ltI (by omega) (by omega)]; omega)]
          exact ih (j + 1) (some j) _ (by omega) (fun b hb => by cases hb; exact ⟨by omega, rfl⟩) (fun z => by cases z)
        | some b =>
          obtain ⟨b1, b2⟩ := h1 b rfl
          obtain ⟨g1, g2⟩ := hf b b1
          have e2 : plF can (fun o => s (61 + o)) p j (some b) = if f j < f b then some j else some b := by
            unfold plF
            have r9 : (nI (f j) < nI (f b)) = (f j < f b) := propext (nI_ltI (by omega) (by omega))
            simp only [q, hc, if_false, Bool.true_eq_false, f2, g2, r9]
          rw [e2, b2]
          by_cases r : f j < f b
          · rw [if_pos r, if_pos (by rw [lN_ltI (by omega) (by omega)]; omega)]
            exact ih (j + 1) (some j) _ (by omega) (fun b' hb => by cases hb; exact ⟨by omega, rfl⟩) (fun z => by cases z)
          · rw [if_neg r, if_neg (by rw [lN_ltI (by omega) (by omega)]; omega)]
            exact ih (j + 1) (some b) _ (by omega) (fun b' hb => by cases hb; exact ⟨b1, rfl⟩) (fun z => by cases z)
theorem ch_eq {can : Nat → Bool} {s : Nat → Int32} {f : Nat → Nat} (hf : ∀ o, o < 6 → f o ≤ 9 ∧ s (61 + o) = nI (f o)) (hn : n ≤ 6) : chC can (sum0 s p) p n = plC can (fun o => s (61 + o)) p n := by
  unfold chC plC
  rw [forF]
  cases hc : can p
  · have e1 : chS can (sum0 s p) p 0 (none, lN 0) = (none, lN 0) := by unfold chS; simp [hc]
    rw [e1, if_neg (by decide)]
    exact ch_pl hf n 0 none _ (by omega) (fun b q => by cases q) (fun _ => rfl)
  · have e1 : chS can (sum0 s p) p 0 (none, lN 0) = (some p, lN 100) := by
      unfold chS
      have e0 : sum0 s p p = lN 100 := by unfold sum0; simp
      simp only [Nat.lt_irrefl, false_and, if_false, if_true, hc, Bool.true_eq_false, e0]
      rw [if_pos (by rw [lN_ltI (by omega) (by omega)]; omega)]
    rw [e1, if_pos rfl, ch_stay hf n 0 (by omega)]
/-- a day in the making, on the class's side: a world and the choices, other rows as they were -/
def PSt (h : xH) (w t cA : Nat) (S : WS) (ch : Nat → Int32) (h0 : xH) : Prop := h0.1 = h.1 ∧ h0.2.1 = h.2.1 ∧ xR h0 = xR h ∧ getW h0 w t = S ∧ xI h0 cA = ch ∧ ∀ a, a ≠ w → a ≠ t → a ≠ cA → xI h0 a = xI h a
def DOK (h : xH) (D wd cA : Nat) : Prop := xis h D (.inr 0) ∧ xR h D 0 = some wd ∧ xR h D 1 = some cA ∧ xis h wd (.inl .long) ∧ xlen h wd = 12 ∧ xis h cA (.inl .int) ∧ xlen h cA = 6
theorem PSt.wok {h0 : xH} {S : WS} {ch : Nat → Int32} (hs : PSt h w t cA S ch h0) (hW : WOK h w t) : WOK h0 w t := by
  obtain ⟨a, b, c, -⟩ := hs
  unfold WOK xis xlen at *
  rw [a, b, c]; exact hW
theorem PSt.dok {h0 : xH} {S : WS} {ch : Nat → Int32} (hs : PSt h w t cA S ch h0) (hD : DOK h D wd cA) : DOK h0 D wd cA := by
  obtain ⟨a, b, c, -⟩ := hs
  unfold DOK xis xlen at *
  rw [a, b, c]; exact hD
theorem cA_ne (hW : WOK h w t) (hD : DOK h D wd cA) : cA ≠ w ∧ cA ≠ t := by
  refine ⟨fun e => ?_, fun e => ?_⟩
  · have := hD.2.2.2.2.2.1.2.symm.trans (e ▸ hW.1.2)
    cases this
  · have := hD.2.2.2.2.2.2.symm.trans (e ▸ hW.2.2.2)
    omega
theorem PSt.set {h0 : xH} {S : WS} {ch : Nat → Int32} (hs : PSt h w t cA S ch h0) (h1 : cA ≠ w ∧ cA ≠ t) (j : Nat) (x : Int32) : PSt h w t cA S (upd ch j x) (setI h0 cA j x) := by
  obtain ⟨a, b, c, e, f, g⟩ := hs
  rw [setI_row]
  refine ⟨a, b, c, ?_, ?_, fun z z1 z2 z3 => ?_⟩
  · rw [← e]; unfold getW; rw [xI_row_ne _ _ (Ne.symm h1.1), xI_row_ne _ _ (Ne.symm h1.2)]
  · rw [xI_row_eq, f]
  · rw [xI_row_ne _ _ z3]; exact g z z1 z2 z3
theorem PSt.put {h0 : xH} {S S' : WS} {ch : Nat → Int32} (hs : PSt h w t cA S ch h0) (h1 : cA ≠ w ∧ cA ≠ t) (hwt : w ≠ t) : PSt h w t cA S' ch (putW h0 w t S') := by
  obtain ⟨a, b, c, e, f, g⟩ := hs
  refine ⟨a, b, c, getW_put hwt S', ?_, fun z z1 z2 z3 => ?_⟩
  · unfold putW; rw [xI_row_ne _ _ h1.2, xI_row_ne _ _ h1.1, f]
  · unfold putW; rw [xI_row_ne _ _ z2, xI_row_ne _ _ z1]; exact g z z1 z2 z3
/-- the choice that a day asks for, with a rule or without -/
def ChoIs (L : Nat) (xs : Nat → Int32) (d n D w t cA : Nat) (rl : Option Nat) (h : xH) (cho : WS → Nat → Option Nat) : Prop := ∀ S ch h0 p, PSt h w t cA S ch h0 → S.1 3 = nI n → p < n → (∀ o, cho S p = some o → o < n) ∧ ∃ h1, PSt h w t cA S ch h1 ∧ ∀ Q, (match rl with | none => Call (pG L xs) pM d 4 [.ref D, .ref w, .int (nI p)] h0 Q | some r => Call (pG L xs) pM d 5 [.ref D, .ref w, .int (nI p), .ref r] h0 Q) = Q (some (.int (opI (cho S p)))) h1
/-- one person's turn -/
def turnF (cho : WS → Nat → Option Nat) : Nat → WS × (Nat → Int32) → WS × (Nat → Int32) := fun p st => if sidF (st.1.1 5) p = 0 then (match cho st.1 p with | none => st.1 | some o => goW st.1 p o, upd (upd st.2 p (-(nI 1))) p (opI (cho st.1 p))) else (st.1, upd st.2 p (-(nI 1)))
theorem goW_3 (S : WS) : (goW S p o).1 3 = S.1 3 := by
  unfold goW giveW stepW
  split <;> simp [upd]
end PS
