section DY
variable {L d : Nat} {xs : Nat → Int32} {h : xH} {Q : xQ} {p o n w t D wd cA a : Nat} {x y z : Int32} {rl : Option (List Cl)}
/-- a day, on the reference's row -/
def trn (rl : Option (List Cl)) (n : Nat) : Nat → (Nat → Int32) → (Nat → Int32) := fun p s => if sidF (s 12) p = 0 then (match choF rl n (wS s) p with | none => s | some o => goS s p o) else s
def dayR (rl : Option (List Cl)) (n : Nat) (s : Nat → Int32) : Nat → Int32 := upd (forF (trn rl n) 0 n s) 10 (forF (trn rl n) 0 n s 10 + nI 1)
def chosen1 (rl : Option (List Cl)) (n : Nat) (s : Nat → Int32) (q : Nat) : Int32 := if sidF (s 12) q = 0 then opI (choF rl n (wS s) q) else -(nI 1)
def dayC (rl : Option (List Cl)) (n : Nat) (s : Nat → Int32) (q : Nat) : Int32 := chosen1 rl n (forF (trn rl n) 0 q s) q
def goN (rl : Option (List Cl)) (n : Nat) (s : Nat → Int32) : Nat := popN ((dayR rl n s 12).toNatClampNeg ^^^ (s 12).toNatClampNeg)
theorem turnS_1 {st : (Nat → Int32) × (Nat → Int32) × Nat} : (turnS (fun s p => choF rl n (wS s) p) p st).1 = trn rl n p st.1 := by
  unfold turnS trn
  split
  · cases e : choF rl n (wS st.1) p <;> simp only [e]
  · rfl
theorem turnS_2 {st : (Nat → Int32) × (Nat → Int32) × Nat} : (turnS (fun s p => choF rl n (wS s) p) p st).2.1 = upd st.2.1 p (chosen1 rl n st.1 p) := by
  unfold turnS chosen1
  split
  · dsimp only
    split
    · rename_i e; rw [e]; rfl
    · rename_i e; rw [e]; rfl
  · rfl
theorem turnsS_1 : ∀ k p st, (forF (turnS (fun s p => choF rl n (wS s) p)) p k st).1 = forF (trn rl n) p k st.1 := by
  intro k
  induction k with
  | zero => intro p st; rw [forF, forF]
  | succ k ih => intro p st; rw [forF, forF, ih, turnS_1]
theorem turnsS_2 : ∀ k p st q, q < p + k → (forF (turnS (fun s p => choF rl n (wS s) p)) p k st).2.1 q = if q < p then st.2.1 q else chosen1 rl n (forF (trn rl n) p (q - p) st.1) q := by
  intro k
  induction k with
  | zero => intro p st q hq; rw [forF, if_pos (by omega)]
  | succ k ih =>
    intro p st q hq
    rw [forF, ih _ _ _ (by omega), turnS_2, turnS_1]
    by_cases e : q < p
    · rw [if_pos (by omega), if_pos e, upd_ne _ _ (by omega)]
    · rw [if_neg e]
      by_cases e2 : q = p
      · subst e2
        rw [if_pos (by omega), upd_eq, Nat.sub_self, forF]
      · rw [if_neg (by omega), show q - p = (q - (p + 1)) + 1 by omega, forF]
theorem trn_ok {s : Nat → Int32} (hS : SOK n s) (hp : p < n) : SOK n (trn rl n p s) := by
  have n6 := hS.1
  unfold trn
  split
  · split
    · exact hS
    · rename_i o ho
      have := ((same_choF (rl := rl)).1 s p hS hp).2 o ho
      exact hS.go (by omega) (by omega)
  · exact hS
theorem trns_ok : ∀ k p s, SOK n s → p + k ≤ n → SOK n (forF (trn rl n) p k s) := by
  intro k
  induction k with
  | zero => intro p s hS _; exact hS
  | succ k ih => intro p s hS hp; rw [forF]; exact ih (p + 1) _ (trn_ok hS (by omega)) (by omega)
theorem SOK.u10 {s : Nat → Int32} (hS : SOK n s) : SOK n (upd s 10 x) := by
  obtain ⟨h1, h2, h3, h4, h5⟩ := hS
  exact ⟨h1, by rw [upd_ne _ _ (by decide)]; exact h2, by rw [upd_ne _ _ (by decide)]; exact h3, fun k hk => by rw [upd_ne _ _ (by omega)]; exact h4 k hk, by rw [upd_ne _ _ (by decide)]; exact h5⟩
theorem dayR_ok {s : Nat → Int32} (hS : SOK n s) : SOK n (dayR rl n s) := (trns_ok n 0 s hS (by omega)).u10
theorem wS_10 {s : Nat → Int32} : wS (upd s 10 x) = (upd (wS s).1 4 x, (wS s).2) := by
  unfold wS
  refine Prod.ext ?_ ?_
  · funext k
    simp only [upd]
    by_cases e : k = 4
    · subst e; simp
    · simp [e]
  · exact trS_upd_n (by omega)
theorem day_eq {s c ch : Nat → Int32} (hS : SOK n s) : (dayW (choF rl n) n (wS s) ch).1 = wS (dayR rl n s) ∧ (∀ q, q < n → (dayW (choF rl n) n (wS s) ch).2 q = dayC rl n s q) ∧ (dayS (fun s p => choF rl n (wS s) p) n s c).1 = dayR rl n s ∧ (∀ q, q < n → (dayS (fun s p => choF rl n (wS s) p) n s c).2.1 q = dayC rl n s q) ∧ (dayS (fun s p => choF rl n (wS s) p) n s c).2.2 = goN rl n s ∧ ∃ a0 a1, a0 < 64 ∧ a1 < 64 ∧ s 12 = nI a0 ∧ (forF (turnF (choF rl n)) 0 n (wS s, ch)).1.1 5 = nI a1 ∧ popN (a1 ^^^ a0) = goN rl n s := by
  have n6 := hS.1
  obtain ⟨a0, ha0, hx⟩ := hS.2.2.2.2.1
  obtain ⟨g1, g2, g3, a1, g4, g5⟩ := turns_eq n6 (same_choF (rl := rl)) (a := a0) n 0 s c 0 a0 ch (Nat.zero_add n) hS hx ⟨ha0, ha0, by rw [Nat.xor_self]; rfl, fun i _ h => h⟩ (fun q hq => absurd hq (Nat.not_lt_zero q))
  have e1 := turnsS_1 (rl := rl) (n := n) n 0 (s, c, 0)
  have e2 := turnsS_2 (rl := rl) (n := n) n 0 (s, c, 0)
  dsimp only at e1
  have e12 : dayR rl n s 12 = nI a1 := by
    unfold dayR
    rw [upd_ne _ _ (by decide), ← e1]; exact g4
  have ego : popN (a1 ^^^ a0) = goN rl n s := by
    unfold goN
    rw [e12, hx, nI_clamp (Nat.lt_trans g5.2.1 (by decide)), nI_clamp (Nat.lt_trans ha0 (by decide))]
  refine ⟨?_, ?_, ?_, ?_, ?_, a0, a1, ha0, g5.2.1, hx, ?_, ego⟩
  · unfold dayW dayR
    rw [wS_10, g1, e1]
    rfl
  · intro q hq
    show (forF (turnF (choF rl n)) 0 n (wS s, ch)).2 q = _
    rw [g2 q hq, e2 q (by omega), if_neg (by omega)]
    rfl
  · unfold dayS dayR
    rw [e1]
  · intro q hq
    show (forF (turnS (fun s p => choF rl n (wS s) p)) 0 n (s, c, 0)).2.1 q = _
    rw [e2 q (by omega), if_neg (by omega)]
    rfl
  · show (forF (turnS (fun s p => choF rl n (wS s) p)) 0 n (s, c, 0)).2.2 = _
    rw [← g5.2.2.1, ego]
  · rw [g1]; exact g4
/-- but for some rows of ints all is as it was -/
def Fr (P : Nat → Prop) (h h1 : xH) : Prop := h1.1 = h.1 ∧ h1.2.1 = h.2.1 ∧ xR h1 = xR h ∧ ∀ a, ¬ P a → xI h1 a = xI h a
theorem Fr.rf {P : Nat → Prop} : Fr P h h := ⟨rfl, rfl, rfl, fun _ _ => rfl⟩
theorem Fr.tr {P : Nat → Prop} {a b c : xH} (h1 : Fr P a b) (h2 : Fr P b c) : Fr P a c := ⟨h2.1.trans h1.1, h2.2.1.trans h1.2.1, h2.2.2.1.trans h1.2.2.1, fun k hk => (h2.2.2.2 k hk).trans (h1.2.2.2 k hk)⟩
theorem Fr.mono {P R : Nat → Prop} {h1 : xH} (hf : Fr P h h1) (hi : ∀ a, P a → R a) : Fr R h h1 := ⟨hf.1, hf.2.1, hf.2.2.1, fun a ha => hf.2.2.2 a fun z => ha (hi a z)⟩
theorem Fr.bas {P : Nat → Prop} {h1 : xH} (hf : Fr P h h1) (hz : Bas h) : Bas h1 := ⟨by rw [hf.1]; exact hz.1, by rw [hf.2.1]; exact hz.2.1, by rw [hf.2.2.1]; exact hz.2.2⟩
theorem Fr.wok {P : Nat → Prop} {h1 : xH} (hf : Fr P h h1) (hW : WOK h w t) : WOK h1 w t := by
  unfold WOK xis xlen at *; rw [hf.1, hf.2.1, hf.2.2.1]; exact hW
theorem Fr.dok {P : Nat → Prop} {h1 : xH} (hf : Fr P h h1) (hD : DOK h D wd cA) : DOK h1 D wd cA := by
  unfold DOK xis xlen at *; rw [hf.1, hf.2.1, hf.2.2.1]; exact hD
theorem Fr.row {P : Nat → Prop} {f : Nat → Int32} (hp : P a) : Fr P h (rowI h a f) := ⟨rfl, rfl, rfl, fun b hb => xI_row_ne _ _ fun e => hb (e ▸ hp)⟩
theorem Fr.sI {P : Nat → Prop} {j : Nat} (hp : P a) : Fr P h (setI h a j x) := by rw [setI_row]; exact Fr.row hp
theorem Fr.rk {P : Nat → Prop} {h1 : xH} {r : Nat} {cls : List Cl} (hf : Fr P h h1) (hP : ∀ a, P a → a < 154) (hr : RuleK h r cls) : RuleK h1 r cls := by
  obtain ⟨c, st, m, q1, q2, q3, q4, q5, q6, q7, q8⟩ := hr
  refine ⟨c, st, m, ?_, ?_, q3, q4, q5, q6, q7, by rw [hf.2.2.2 r fun z => by have := hP r z; omega]; exact q8⟩
  · unfold RuleC xis xlen at *; rw [hf.1, hf.2.1, hf.2.2.1]; exact q1
  · rw [hf.2.2.2 c fun z => by have := hP c z; omega]; exact q2
/-- a rule, or none, as the class hands it on -/
def RuleV (h : xH) (rv : Value) (rl : Option (List Cl)) : Prop := (rv = .null ∧ rl = none) ∨ ∃ r cls, rv = .ref r ∧ rl = some cls ∧ RuleK h r cls
theorem Fr.rv {P : Nat → Prop} {h1 : xH} {rv : Value} (hf : Fr P h h1) (hP : ∀ a, P a → a < 154) (hr : RuleV h rv rl) : RuleV h1 rv rl := by
  rcases hr with e | ⟨r, cls, e1, e2, e3⟩
  · exact .inl e
  · exact .inr ⟨r, cls, e1, e2, hf.rk hP e3⟩
theorem C_pass (hW : WOK h w t) (hD : DOK h D wd cA) (hw : w < 154) (ht : t < 154) (hc : cA < 154) {rv : Value} (hr : RuleV h rv rl) {s : Nat → Int32} (hS : SOK n s) (hg : getW h w t = wS s) : ∃ h1, Fr (fun a => a = w ∨ a = t ∨ a = cA) h h1 ∧ getW h1 w t = wS (dayR rl n s) ∧ (∀ q, q < n → xI h1 cA q = dayC rl n s q) ∧ ∀ Q, Call (pG L xs) pM (d + 5) 1 [.ref D, .ref w, rv] h Q = Q (some (.int (nI (goN rl n s)))) h1 := by
  have n6 := hS.1
  obtain ⟨k1, k2, -, -, -, a0, a1, b1, b2, b3, b4, b5⟩ := day_eq (rl := rl) (c := s) (ch := xI h cA) hS
  have hps : PSt h w t cA (wS s) (xI h cA) h := ⟨rfl, rfl, rfl, hg, rfl, fun _ _ _ _ => rfl⟩
  have fin : ∀ h1, PSt h w t cA (dayW (choF rl n) n (wS s) (xI h cA)).1 (dayW (choF rl n) n (wS s) (xI h cA)).2 h1 → Fr (fun a => a = w ∨ a = t ∨ a = cA) h h1 ∧ getW h1 w t = wS (dayR rl n s) ∧ (∀ q, q < n → xI h1 cA q = dayC rl n s q) := by
    intro h1 g
    refine ⟨⟨g.1, g.2.1, g.2.2.1, fun a ha => g.2.2.2.2.2 a (fun z => ha (.inl z)) (fun z => ha (.inr (.inl z))) (fun z => ha (.inr (.inr z)))⟩, by rw [g.2.2.2.1, k1], fun q hq => by rw [g.2.2.2.2.1, k2 q hq]⟩
  rcases hr with ⟨rfl, rfl⟩ | ⟨r, cls, rfl, rfl, hr⟩
  · obtain ⟨h1, g1, g2⟩ := d_passN (L := L) (d := d) (xs := xs) hW hD n6 (choIs_none hW n6) hps hS.2.1 b1 b2 b3 b4
    obtain ⟨f1, f2, f3⟩ := fin h1 g1
    exact ⟨h1, f1, f2, f3, fun Q => by rw [g2 Q, b5]⟩
  · obtain ⟨h1, g1, g2⟩ := d_passR (L := L) (d := d) (xs := xs) hW hD n6 (choIs_rule hW hD hw ht hc n6 hr) hps hS.2.1 b1 b2 b3 b4
    obtain ⟨f1, f2, f3⟩ := fin h1 g1
    exact ⟨h1, f1, f2, f3, fun Q => by rw [g2 Q, b5]⟩
/-- the rule in force, or none, as the reference has it -/
def ForceV (h : xH) (rl : Option (List Cl)) : Prop := (xI h 127 21 < 0 ∧ rl = none) ∨ ∃ t cls, xI h 127 21 = nI t ∧ rl = some cls ∧ RuleR h t cls
/-- but for some rows, and some slots of the reference's own, all is as it was -/
def FrR (P J : Nat → Prop) (h h1 : xH) : Prop := h1.1 = h.1 ∧ h1.2.1 = h.2.1 ∧ xR h1 = xR h ∧ (∀ a, a ≠ 127 → ¬ P a → xI h1 a = xI h a) ∧ ∀ j, ¬ J j → xI h1 127 j = xI h 127 j
theorem FrR.rf {P J : Nat → Prop} : FrR P J h h := ⟨rfl, rfl, rfl, fun _ _ _ => rfl, fun _ _ => rfl⟩
theorem FrR.tr {P J : Nat → Prop} {a b c : xH} (h1 : FrR P J a b) (h2 : FrR P J b c) : FrR P J a c := ⟨h2.1.trans h1.1, h2.2.1.trans h1.2.1, h2.2.2.1.trans h1.2.2.1, fun k hk h3 => (h2.2.2.2.1 k hk h3).trans (h1.2.2.2.1 k hk h3), fun k hk => (h2.2.2.2.2 k hk).trans (h1.2.2.2.2 k hk)⟩
theorem FrR.mono {P J P2 J2 : Nat → Prop} {h1 : xH} (hf : FrR P J h h1) (hp : ∀ a, P a → P2 a) (hj : ∀ a, J a → J2 a) : FrR P2 J2 h h1 := ⟨hf.1, hf.2.1, hf.2.2.1, fun a h1 h2 => hf.2.2.2.1 a h1 fun z => h2 (hp a z), fun j h1 => hf.2.2.2.2 j fun z => h1 (hj j z)⟩
theorem FrR.bas {P J : Nat → Prop} {h1 : xH} (hf : FrR P J h h1) (hz : Bas h) : Bas h1 := ⟨by rw [hf.1]; exact hz.1, by rw [hf.2.1]; exact hz.2.1, by rw [hf.2.2.1]; exact hz.2.2⟩
theorem FrR.row {P J : Nat → Prop} {f : Nat → Int32} (hp : P a) (h7 : a ≠ 127) : FrR P J h (rowI h a f) := ⟨rfl, rfl, rfl, fun b _ hb => xI_row_ne _ _ fun e => hb (e ▸ hp), fun j _ => by rw [xI_row_ne _ _ h7.symm]⟩
theorem FrR.sI {P J : Nat → Prop} {j : Nat} (hp : P a) (h7 : a ≠ 127) : FrR P J h (setI h a j x) := by rw [setI_row]; exact FrR.row hp h7
theorem FrR.s7 {P J : Nat → Prop} {j : Nat} (hj : J j) : FrR P J h (setI h 127 j x) := by
  rw [setI_row]
  exact ⟨rfl, rfl, rfl, fun b hb _ => xI_row_ne _ _ hb, fun k hk => by
    have hne : k ≠ j := fun e => hk (by rw [e]; exact hj)
    rw [xI_row_eq, upd_ne _ _ hne]⟩
/-- the days' own rows -/
def PD (a : Nat) : Prop := a = 137 ∨ a = 138
def JD (j : Nat) : Prop := j = 18
theorem FrR.rr {P J : Nat → Prop} {h1 : xH} {cls : List Cl} (hf : FrR P J h h1) (h1' : ¬ P 129) (h2' : ¬ P 131) (h3' : ¬ P 132) (hr : RuleR h t cls) : RuleR h1 t cls := by
  unfold RuleR at *
  rw [hf.2.2.2.1 129 (by decide) h1', hf.2.2.2.1 131 (by decide) h2', hf.2.2.2.1 132 (by decide) h3']; exact hr
theorem FrR.fv {P J : Nat → Prop} {h1 : xH} (hf : FrR P J h h1) (h1' : ¬ P 129) (h2' : ¬ P 131) (h3' : ¬ P 132) (h4' : ¬ J 21) (hr : ForceV h rl) : ForceV h1 rl := by
  unfold ForceV at *
  rw [hf.2.2.2.2 21 h4']
  rcases hr with e | ⟨t, cls, e1, e2, e3⟩
  · exact .inl e
  · exact .inr ⟨t, cls, e1, e2, hf.rr h1' h2' h3' e3⟩
theorem R_passes (hz : Bas h) (hf : ForceV h rl) (hS : SOK n (xI h 137)) : ∃ h1, FrR PD JD h h1 ∧ xI h1 137 = dayR rl n (xI h 137) ∧ (∀ q, q < n → xI h1 138 q = dayC rl n (xI h 137) q) ∧ ∀ Q, Call (pG L xs) pM (d + 6) 223 [.ref 127] h Q = Q (some (.int (nI (goN rl n (xI h 137))))) h1 := by
  have n6 := hS.1
  obtain ⟨-, -, k3, k4, k5, -⟩ := day_eq (rl := rl) (c := xI h 138) (ch := xI h 137) hS
  have hrs : RSt h (xI h 137) (xI h 138) h := ⟨rfl, rfl, rfl, rfl, rfl, fun _ _ _ _ => rfl, fun _ _ => rfl⟩
  have hC : ChoR L xs (d + 5) n h (fun s p => choF rl n (wS s) p) := by
    rcases hf with ⟨e1, rfl⟩ | ⟨t, cls, e1, rfl, e3⟩
    · exact choR_none hz e1
    · exact choR_rule hz e3 e1
  obtain ⟨h1, g1, g2⟩ := s_passes (L := L) (d := d) (xs := xs) hz n6 hC hrs hS
  refine ⟨h1, ⟨g1.1, g1.2.1, g1.2.2.1, fun a z1 z2 => g1.2.2.2.2.2.1 a z1 (fun e => z2 (.inl e)) (fun e => z2 (.inr e)), fun j hj => g1.2.2.2.2.2.2 j hj⟩, by rw [g1.2.2.2.1, k3], fun q hq => by rw [g1.2.2.2.2.1, k4 q hq], fun Q => by rw [g2 Q, k5]⟩
end DY
