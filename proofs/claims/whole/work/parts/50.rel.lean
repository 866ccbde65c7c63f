section RL
variable {L d : Nat} {xs : Nat → Int32} {h h1 : xH} {Q : xQ} {p o n w t : Nat} {x y z : Int32}
/-- a world as some row of the reference's would lay it -/
def WAny (h : xH) (w t : Nat) : Prop := ∃ s, getW h w t = wS s
/-- a scene: the row, the rule in force, x -/
abbrev Sn : Type := (Nat → Int32) × Int32 × Int32
def begS (s : Nat → Int32) : Nat → Int32 := fun i => if i = 10 then nI 0 else if i = 11 then s 109 else if i = 12 then nI 0 else if 13 ≤ i ∧ i < 55 then s (54 + i) else s i
def ByI (x : Int32) : Prop := ∃ b, b < 256 ∧ x = if b < 128 then nI b else nI b - nI 256
def TapeC (h : xH) (T : Nat) (tp : Nat → Int32) : Prop := xI h 1 1 = nI T ∧ ∀ i, i < T → xI h 2 i = tp i
def TapeR (h : xH) (T : Nat) (tp : Nat → Int32) : Prop := xI h 127 1 = nI T ∧ ∀ i, i < T → xI h 128 i = tp i
def RulesC (h : xH) (R : List (List Cl)) : Prop := xI h 0 4 = nI R.length ∧ ∀ i cls, R[i]? = some cls → ∃ r, xR h 10 i = some r ∧ RuleK h r cls
def RulesR (h : xH) (R : List (List Cl)) : Prop := xI h 127 2 = nI R.length ∧ ∀ i cls, R[i]? = some cls → RuleR h i cls
def SceneC (h : xH) (b : Nat) (σ : Sn) : Prop := getW h (b + 3) (b + 4) = wS σ.1 ∧ getW h (b + 1) (b + 2) = wS (begS σ.1) ∧ xI h b 6 = σ.1 140 ∧ xI h b 7 = σ.2.2 ∧ xI h b 8 = σ.2.1 ∧ ∀ k, σ.1 140 = nI k → k ≤ 10 → ∀ i, i < k → xI h (b + 5) i = σ.1 (110 + 3 * i) ∧ xI h (b + 6) i = σ.1 (111 + 3 * i) ∧ xI h (b + 7) i = σ.1 (112 + 3 * i)
def SceneR (h : xH) (σ : Sn) : Prop := xI h 137 = σ.1 ∧ xI h 127 21 = σ.2.1 ∧ xI h 127 22 = σ.2.2
def HistC (h : xH) (u : Nat) (H : Nat → Nat → Int32) : Prop := ∃ nx, nx < 20 ∧ xI h 20 1 = nI nx ∧ xI h 20 2 = nI u ∧ (∀ i, i < 20 → WAny h (22 + 2 * i) (23 + 2 * i)) ∧ ∀ j, j < u → getW h (22 + 2 * ((nx + 19 - j) % 20)) (23 + 2 * ((nx + 19 - j) % 20)) = wS (H j)
def HistR (h : xH) (u : Nat) (H : Nat → Nat → Int32) : Prop := xI h 127 25 = nI u ∧ ∀ j, j < u → ∀ k, k < 45 → xI h 139 (45 * (u - 1 - j) + k) = H j (10 + k)
def ImgC (h : xH) (ι : Nat → Option Sn) : Prop := ∀ k, k < 4 → xI h (95 + 8 * k) 0 = bI (ι k).isSome ∧ WAny h (96 + 8 * k) (97 + 8 * k) ∧ WAny h (98 + 8 * k) (99 + 8 * k) ∧ ∀ σ, ι k = some σ → SceneC h (95 + 8 * k) σ
def ImgR (h : xH) (ι : Nat → Option Sn) : Prop := ∀ k, k < 4 → xI h 153 k = bI (ι k).isSome ∧ ∀ σ, ι k = some σ → (∀ i, i < 141 → xI h 150 (141 * k + i) = σ.1 i) ∧ xI h 151 k = σ.2.1 ∧ xI h 152 k = σ.2.2
/-- what holds of a scene -/
def SInv (R : Nat) (σ : Sn) : Prop := ∃ n k e, SOK n σ.1 ∧ SOK n (begS σ.1) ∧ (σ.1 0 = 0 ∨ σ.1 0 = 1) ∧ (σ.1 10 = nI e ∧ e ≤ 999) ∧ (σ.1 140 = nI k ∧ k ≤ 10) ∧ (∀ i, i < k → ∃ a b c, σ.1 (110 + 3 * i) = nI a ∧ a ≤ 60 ∧ σ.1 (111 + 3 * i) = nI b ∧ b < n ∧ σ.1 (112 + 3 * i) = nI c ∧ c < 2) ∧ ¬ σ.2.2 < 0 ∧ (σ.2.1 = -(nI 1) ∨ ∃ j, j < R ∧ σ.2.1 = nI j) ∧ ∀ i, 141 ≤ i → σ.1 i = 0
def HInv (s : Nat → Int32) (u : Nat) (H : Nat → Nat → Int32) : Prop := u ≤ 20 ∧ ∀ j, j < u → (∃ n, SOK n (H j)) ∧ (∃ e, e ≤ 999 ∧ H j 10 = nI e) ∧ ∀ i, i < 10 ∨ 55 ≤ i ∧ i < 110 → H j i = s i
def Room (h : xH) (R : Nat) : Prop := h.1 = 154 + 3 * R ∧ xsl h ≤ xsl hB + 500 * R
/-- the class's side; the reference's; what holds of both -/
def CRel (h : xH) (T : Nat) (tp : Nat → Int32) (R : List (List Cl)) (σ : Sn) (u : Nat) (H : Nat → Nat → Int32) (ι : Nat → Option Sn) : Prop := Bas h ∧ Room h R.length ∧ TapeC h T tp ∧ RulesC h R ∧ SceneC h 11 σ ∧ HistC h u H ∧ ImgC h ι ∧ WAny h 4 5 ∧ WAny h 73 74 ∧ WAny h 81 82
def RRel (h : xH) (T : Nat) (tp : Nat → Int32) (R : List (List Cl)) (σ : Sn) (u : Nat) (H : Nat → Nat → Int32) (ι : Nat → Option Sn) : Prop := TapeR h T tp ∧ RulesR h R ∧ SceneR h σ ∧ HistR h u H ∧ ImgR h ι
def Good (T : Nat) (tp : Nat → Int32) (R : List (List Cl)) (σ : Sn) (u : Nat) (H : Nat → Nat → Int32) (ι : Nat → Option Sn) : Prop := T ≤ 400 ∧ (∀ i, i < T → ByI (tp i)) ∧ R.length ≤ 6 ∧ SInv R.length σ ∧ HInv σ.1 u H ∧ ∀ k, k < 4 → ∀ σ', ι k = some σ' → SInv R.length σ'
def Rel (h : xH) : Prop := ∃ T tp R σ u H ι, CRel h T tp R σ u H ι ∧ RRel h T tp R σ u H ι ∧ Good T tp R σ u H ι
/-- one call of both, with the same answer -/
def Pair (L : Nat) (xs : Nat → Int32) (d cm rm : Nat) (as : List Value) : Prop := ∀ h, Rel h → ∃ v h1 h2, Rel h2 ∧ (∀ Q, Call (pG L xs) pM d cm (.ref 0 :: as) h Q = Q (some (.int v)) h1) ∧ ∀ Q, Call (pG L xs) pM d rm (.ref 127 :: as) h1 Q = Q (some (.int v)) h2
/-! what a call leaves -/
theorem WAny.fr {P : Nat → Prop} (hf : Fr P h h1) (h1' : ¬ P w) (h2' : ¬ P t) (hw : WAny h w t) : WAny h1 w t := by
  unfold WAny getW at *; rw [hf.2.2.2 w h1', hf.2.2.2 t h2']; exact hw
theorem getW_fr {P : Nat → Prop} (hf : Fr P h h1) (h1' : ¬ P w) (h2' : ¬ P t) : getW h1 w t = getW h w t := by
  unfold getW; rw [hf.2.2.2 w h1', hf.2.2.2 t h2']
theorem Room.fr {P : Nat → Prop} {R : Nat} (hf : Fr P h h1) (hr : Room h R) : Room h1 R := by
  unfold Room xsl at *; rw [hf.1, hf.2.1]; exact hr
theorem TapeC.fr {P : Nat → Prop} {T : Nat} {tp : Nat → Int32} (hf : Fr P h h1) (h1' : ¬ P 1) (h2' : ¬ P 2) (ht : TapeC h T tp) : TapeC h1 T tp := by
  unfold TapeC at *; rw [hf.2.2.2 1 h1', hf.2.2.2 2 h2']; exact ht
theorem RulesC.fr {P : Nat → Prop} {R : List (List Cl)} (hf : Fr P h h1) (h0 : ¬ P 0) (hP : ∀ a, P a → a < 154) (hr : RulesC h R) : RulesC h1 R := by
  unfold RulesC at *
  rw [hf.2.2.2 0 h0, hf.2.2.1]
  exact ⟨hr.1, fun i cls hi => by obtain ⟨r, h1, h2⟩ := hr.2 i cls hi; exact ⟨r, h1, hf.rk hP h2⟩⟩
theorem SceneC.fr {P : Nat → Prop} {b : Nat} {σ : Sn} (hf : Fr P h h1) (hP : ∀ a, b ≤ a → a ≤ b + 7 → ¬ P a) (hs : SceneC h b σ) : SceneC h1 b σ := by
  unfold SceneC getW at *
  rw [hf.2.2.2 b (hP _ (by omega) (by omega)), hf.2.2.2 (b + 1) (hP _ (by omega) (by omega)), hf.2.2.2 (b + 2) (hP _ (by omega) (by omega)), hf.2.2.2 (b + 3) (hP _ (by omega) (by omega)), hf.2.2.2 (b + 4) (hP _ (by omega) (by omega)), hf.2.2.2 (b + 5) (hP _ (by omega) (by omega)), hf.2.2.2 (b + 6) (hP _ (by omega) (by omega)), hf.2.2.2 (b + 7) (hP _ (by omega) (by omega))]
  exact hs
theorem HistC.fr {P : Nat → Prop} {u : Nat} {H : Nat → Nat → Int32} (hf : Fr P h h1) (hP : ∀ a, 20 ≤ a → a ≤ 61 → ¬ P a) (hs : HistC h u H) : HistC h1 u H := by
  obtain ⟨nx, a1, a2, a3, a4, a5⟩ := hs
  refine ⟨nx, a1, ?_, ?_, fun i hi => WAny.fr hf (hP _ (by omega) (by omega)) (hP _ (by omega) (by omega)) (a4 i hi), fun j hj => ?_⟩
  · rw [hf.2.2.2 20 (hP _ (by omega) (by omega))]; exact a2
  · rw [hf.2.2.2 20 (hP _ (by omega) (by omega))]; exact a3
  · rw [getW_fr hf (hP _ (by omega) (by omega)) (hP _ (by omega) (by omega))]; exact a5 j hj
theorem ImgC.fr {P : Nat → Prop} {ι : Nat → Option Sn} (hf : Fr P h h1) (hP : ∀ a, 95 ≤ a → a ≤ 126 → ¬ P a) (hs : ImgC h ι) : ImgC h1 ι := by
  intro k hk
  obtain ⟨a1, a2, a3, a4⟩ := hs k hk
  refine ⟨?_, WAny.fr hf (hP _ (by omega) (by omega)) (hP _ (by omega) (by omega)) a2, WAny.fr hf (hP _ (by omega) (by omega)) (hP _ (by omega) (by omega)) a3, fun σ hσ => SceneC.fr hf (fun a b1 b2 => hP _ (by omega) (by omega)) (a4 σ hσ)⟩
  rw [hf.2.2.2 _ (hP _ (by omega) (by omega))]; exact a1
theorem RRel.fr {P : Nat → Prop} {T : Nat} {tp : Nat → Int32} {R : List (List Cl)} {σ : Sn} {u : Nat} {H : Nat → Nat → Int32} {ι : Nat → Option Sn} (hf : Fr P h h1) (hP : ∀ a, P a → a < 127 ∨ 154 ≤ a) (hr : RRel h T tp R σ u H ι) : RRel h1 T tp R σ u H ι := by
  have e : ∀ a, 127 ≤ a → a < 154 → xI h1 a = xI h a := fun a h2 h3 => hf.2.2.2 a fun z => by have := hP a z; omega
  unfold RRel TapeR RulesR SceneR HistR ImgR RuleR at *
  simp only [e 127 (by decide) (by decide), e 128 (by decide) (by decide), e 129 (by decide) (by decide), e 131 (by decide) (by decide), e 132 (by decide) (by decide), e 137 (by decide) (by decide), e 139 (by decide) (by decide), e 150 (by decide) (by decide), e 151 (by decide) (by decide), e 152 (by decide) (by decide), e 153 (by decide) (by decide)]
  exact hr
/-- what the reference does leaves the class's places -/
theorem FrR.fr {P J : Nat → Prop} (hf : FrR P J h h1) : Fr (fun a => a = 127 ∨ P a) h h1 := ⟨hf.1, hf.2.1, hf.2.2.1, fun a ha => hf.2.2.2.1 a (fun z => ha (.inl z)) (fun z => ha (.inr z))⟩
theorem CRel.fr {P : Nat → Prop} {T : Nat} {tp : Nat → Int32} {R : List (List Cl)} {σ : Sn} {u : Nat} {H : Nat → Nat → Int32} {ι : Nat → Option Sn} (hf : Fr P h h1) (hP : ∀ a, P a → 127 ≤ a ∧ a < 154) (hr : CRel h T tp R σ u H ι) : CRel h1 T tp R σ u H ι := by
  obtain ⟨a1, a2, a3, a4, a5, a6, a7, a8, a9, a10⟩ := hr
  have e : ∀ a, a < 127 → ¬ P a := fun a h1 z => by have := hP a z; omega
  exact ⟨hf.bas a1, a2.fr hf, a3.fr hf (e _ (by decide)) (e _ (by decide)), a4.fr hf (e _ (by decide)) (fun a z => (hP a z).2), a5.fr hf (fun a _ h2 => e _ (by omega)), a6.fr hf (fun a _ h2 => e _ (by omega)), a7.fr hf (fun a _ h2 => e _ (by omega)), a8.fr hf (e _ (by decide)) (e _ (by decide)), a9.fr hf (e _ (by decide)) (e _ (by decide)), a10.fr hf (e _ (by decide)) (e _ (by decide))⟩
/-- the class's scratch places -/
def SC (a : Nat) : Prop := 62 ≤ a ∧ a ≤ 94
theorem CRel.sc {P : Nat → Prop} {T : Nat} {tp : Nat → Int32} {R : List (List Cl)} {σ : Sn} {u : Nat} {H : Nat → Nat → Int32} {ι : Nat → Option Sn} (hf : Fr P h h1) (hP : ∀ a, P a → SC a) (w1 : WAny h1 73 74) (w2 : WAny h1 81 82) (hr : CRel h T tp R σ u H ι) : CRel h1 T tp R σ u H ι := by
  obtain ⟨a1, a2, a3, a4, a5, a6, a7, a8, a9, a10⟩ := hr
  have e : ∀ a, a < 62 ∨ 94 < a → ¬ P a := fun a h1 z => by have := hP a z; unfold SC at this; omega
  exact ⟨hf.bas a1, a2.fr hf, a3.fr hf (e _ (by decide)) (e _ (by decide)), a4.fr hf (e _ (by decide)) (fun a z => by have := hP a z; unfold SC at this; omega), a5.fr hf (fun a _ h2 => e _ (by omega)), a6.fr hf (fun a _ h2 => e _ (by omega)), a7.fr hf (fun a _ h2 => e _ (by omega)), a8.fr hf (e _ (by decide)) (e _ (by decide)), w1, w2⟩
/-- the reference's scratch places and slots -/
def SR (a : Nat) : Prop := a = 133 ∨ a = 134 ∨ a = 137 ∨ a = 138 ∨ 140 ≤ a ∧ a ≤ 149
def SJ (j : Nat) : Prop := j ≠ 1 ∧ j ≠ 2 ∧ j ≠ 21 ∧ j ≠ 22 ∧ j ≠ 25
theorem RRel.sr {P J : Nat → Prop} {T : Nat} {tp : Nat → Int32} {R : List (List Cl)} {σ : Sn} {u : Nat} {H : Nat → Nat → Int32} {ι : Nat → Option Sn} (hf : FrR P J h h1) (hP : ∀ a, P a → SR a) (hJ : ∀ j, J j → SJ j) (hs : xI h1 137 = σ.1) (hr : RRel h T tp R σ u H ι) : RRel h1 T tp R σ u H ι := by
  have e : ∀ a, a ≠ 127 → ¬ SR a → xI h1 a = xI h a := fun a h2 h3 => hf.2.2.2.1 a h2 fun z => h3 (hP a z)
  have e' : ∀ j, ¬ SJ j → xI h1 127 j = xI h 127 j := fun j h3 => hf.2.2.2.2 j fun z => h3 (hJ j z)
  unfold RRel TapeR RulesR SceneR HistR ImgR RuleR at *
  rw [e' 1 (by unfold SJ; omega), e' 2 (by unfold SJ; omega), e' 21 (by unfold SJ; omega), e' 22 (by unfold SJ; omega), e' 25 (by unfold SJ; omega)]
  simp only [e 128 (by decide) (by unfold SR; omega), e 129 (by decide) (by unfold SR; omega), e 131 (by decide) (by unfold SR; omega), e 132 (by decide) (by unfold SR; omega), e 139 (by decide) (by unfold SR; omega), e 150 (by decide) (by unfold SR; omega), e 151 (by decide) (by unfold SR; omega), e 152 (by decide) (by unfold SR; omega), e 153 (by decide) (by unfold SR; omega)]
  obtain ⟨b1, b2, ⟨b3, b4, b5⟩, b6, b7⟩ := hr
  exact ⟨b1, b2, ⟨hs, b4, b5⟩, b6, b7⟩
/-- a call that asks -/
theorem Rel.ask {P P' J' : Nat → Prop} {h2 : xH} {T : Nat} {tp : Nat → Int32} {R : List (List Cl)} {σ : Sn} {u : Nat} {H : Nat → Nat → Int32} {ι : Nat → Option Sn} (hC : CRel h T tp R σ u H ι) (hR : RRel h T tp R σ u H ι) (hG : Good T tp R σ u H ι) (hf : Fr P h h1) (hP : ∀ a, P a → SC a) (w1 : WAny h1 73 74) (w2 : WAny h1 81 82) (hf2 : FrR P' J' h1 h2) (hP' : ∀ a, P' a → SR a) (hJ' : ∀ j, J' j → SJ j) (hs : xI h2 137 = σ.1) : Rel h2 :=
  ⟨T, tp, R, σ, u, H, ι, (hC.sc hf hP w1 w2).fr hf2.fr (fun a z => z.elim (fun z => by omega) fun z => by have := hP' a z; unfold SR at this; omega), (hR.fr hf (fun a z => by have := hP a z; unfold SC at this; omega)).sr hf2 hP' hJ' hs, hG⟩
/-- somebody of a few -/
theorem per_c {n : Nat} (hn : n ≤ 6) (x : Int32) : (!decide (x < 0) && decide (x < nI n)) = false ∨ ∃ p, p < n ∧ x = nI p := by
  by_cases e : x < 0
  · left; simp [e]
  · obtain ⟨j, hj, rfl⟩ := nI_of e
    by_cases q : j < n
    · exact .inr ⟨j, q, rfl⟩
    · left
      have : ¬ nI j < nI n := fun z => q ((nI_ltI hj (by omega)).mp z)
      simp [this]
/-- a number within bounds -/
theorem wi_c {a b : Nat} (hb : b < 2 ^ 31) (hab : a ≤ b) (x : Int32) : ((!decide (x < nI a) && !decide (nI b < x)) = false ∧ (x.toInt < a ∨ (b : Int) < x.toInt)) ∨ ∃ k, a ≤ k ∧ k ≤ b ∧ x = nI k := by
  have ea : (nI a).toInt = a := nI_toInt (by omega)
  have eb : (nI b).toInt = b := nI_toInt hb
  by_cases e : x < nI a
  · left
    have := Int32.lt_iff_toInt_lt.mp e
    exact ⟨by simp [e], .inl (by omega)⟩
  · by_cases q : nI b < x
    · left
      have := Int32.lt_iff_toInt_lt.mp q
      exact ⟨by simp [q], .inr (by omega)⟩
    · right
      have e' : ¬ x.toInt < (nI a).toInt := fun z => e (Int32.lt_iff_toInt_lt.mpr z)
      have q' : ¬ (nI b).toInt < x.toInt := fun z => q (Int32.lt_iff_toInt_lt.mpr z)
      have e0 : ¬ x < 0 := fun z => by have := Int32.lt_iff_toInt_lt.mp z; rw [Int32.toInt_zero] at this; omega
      obtain ⟨j, hj, rfl⟩ := nI_of e0
      rw [nI_toInt hj] at e' q'
      exact ⟨j, by omega, by omega, rfl⟩
theorem wi_t {a b k : Nat} (hb : b < 2 ^ 31) (ha : a ≤ k) (hk : k ≤ b) : (!decide (nI k < nI a) && !decide (nI b < nI k)) = true := by
  have h1 : ¬ nI k < nI a := fun z => by have := (nI_ltI (by omega) (by omega)).mp z; omega
  have h2 : ¬ nI b < nI k := fun z => by have := (nI_ltI (by omega) (by omega)).mp z; omega
  simp [h1, h2]
theorem xsw_o {d : Nat} {lo hi : Int} {o : Array Int} (hx : x.toInt < lo ∨ hi < x.toInt) : xsw (.ofNat d) lo hi o x = Int.toNat (.ofNat d) := by
  unfold xsw; rw [if_pos hx]
theorem l_lt (a b : Int32) : (a.toInt64 < b.toInt64) = (a < b) := by
  rw [Int64.lt_iff_toInt_lt, Int32.lt_iff_toInt_lt, Int32.toInt_toInt64, Int32.toInt_toInt64]
theorem c_within : Call (pG L xs) pM (d + 1) 155 [.int x, .int y, .int z] h Q = Q (some (.int (bI (!decide (x < y) && !decide (z < x))))) h := by
  simp (disch := omega) only [m155, b155_0, k155_1, b155_1, k155_2, b155_2, e_iconst, e_lconst, e_null, e_ldc, e_iload0i, e_iload1i, e_iload2i, e_iload3i, e_iload4i, e_iload5i, e_iload6i, e_iload7i, e_iload8i, e_iload9i, e_iload10i, e_lload0l, e_lload1l, e_lload2l, e_lload3l, e_lload4l, e_lload5l, e_lload6l, e_lload7l, e_lload8l, e_lload9l, e_lload10l, e_aload0r, e_aload1r, e_aload2r, e_aload3r, e_aload4r, e_aload5r, e_aload6r, e_aload7r, e_aload8r, e_aload9r, e_aload10r, e_aload0n, e_aload1n, e_aload2n, e_aload3n, e_aload4n, e_aload5n, e_aload6n, e_aload7n, e_aload8n, e_aload9n, e_aload10n, e_aload0f, e_aload1f, e_aload2f, e_aload3f, e_aload4f, e_aload5f, e_aload6f, e_aload7f, e_aload8f, e_aload9f, e_aload10f, e_iinc0, e_iinc1, e_iinc2, e_iinc3, e_iinc4, e_iinc5, e_iinc6, e_iinc7, e_iinc8, e_iinc9, e_iinc10, xst_0, xst_1i, xst2_1i, xst_1r, xst2_1r, xst_1n, xst2_1n, xst_1f, xst2_1f, xst_1u, xst2_1u, xst_1l, xst2_1l, xst2_0, xst_s, xst2_s, e_istore, e_lstore, e_astore, e_astoreN, e_iadd, e_isub, e_imul, e_iand, e_ior, e_ixor, e_ishl, e_ishr, e_iushr, e_ladd, e_lsub, e_lmul, e_land, e_lor, e_lshl, e_lcmp, e_i2l, e_l2i, e_i2b, e_ineg, e_dupi, e_dupr, e_dup2, e_popi, e_popr, e_idiv, e_irem, e_ldiv, e_lrem, e_ifCond, e_if_icmp, e_ifnullR, e_ifnullN, e_ifnonnullR, e_ifnonnullN, e_goto, e_jsr, e_tsw, e_lsw, e_getfield, e_dload, e_fload, e_putfield, e_dstore, e_fstore, e_fstoreN, e_monitor, e_new, e_newarray, e_anewarray, e_mnew, e_alen, e_slen, e_schr, e_alenF, e_iaload, e_ialoadF, e_baload, e_laload, e_aaload, e_iastore, e_lastore, e_aastore, e_bastoreB, e_bastoreZ, e_copy, e_ireturnI, e_ireturnZ0, e_ireturnZ1, e_ireturnZb, e_lreturn, e_areturn, e_areturnA, e_areturnN, e_return, ofI, ofIm, ofJ, cat_i, cat_l, cat_r, cat_f, cat_n, xent_0, xent_i, xent_l, xent_r, xent_n, xent_f, xentry, xrf_s, xrf_n, List.getD_cons_zero, List.getD_cons_succ, List.length_cons, List.length_nil, List.cons_append, List.nil_append, List.append_nil, List.map_cons, List.map_nil, List.sum_cons, List.sum_nil, List.replicate, oT_s, oT_n, true_and, and_true, Nat.reduceAdd, Nat.reduceSub, Nat.reduceLeDiff, Nat.reduceEqDiff, Nat.reduceLT, Nat.reduceDiv, Nat.reduceMod, Nat.reduceMul, eq_self, ofN, nI_dec, nI_11, or_true, true_or, false_or, or_false, nI_e0, nI_0lt, Nat.succ_ne_zero, Nat.zero_lt_succ, lg_cmp_gt, lg_cmp_lt, lg_cmp_eq, nI_lt0, nI_add, pk_sub, pk_mul, Nat.add_sub_cancel, nI_clamp, vp_in_T, nI_ltI, nI_leI, nI_eqI, Nat.zero_add, Nat.add_zero, xc_eq, xc_ne, xc_lt, xc_ge, xc_gt, xc_le, bI_0, bI_0n, bI_n0, not_true_eq_false, not_false_eq_true, if_true, if_false, ite_true, ite_false, decide_true, decide_false, and_self, and_true, true_and]
  ((repeat' split) <;> simp_all [bI, -Int32.not_lt, -Int32.not_le])
theorem r_in {a b : Nat} (ha : a < 2 ^ 31) (hb : b < 2 ^ 31) : Call (pG L xs) pM (d + 1) 157 [.long x.toInt64, .long (lN a), .long (lN b)] h Q = Q (some (.int (bI (!decide (x < nI a) && !decide (nI b < x))))) h := by
  rw [← nI_l ha, ← nI_l hb]
  simp (disch := omega) only [m157, b157_0, k157_1, b157_1, k157_2, b157_2, e_iconst, e_lconst, e_null, e_ldc, e_iload0i, e_iload1i, e_iload2i, e_iload3i, e_iload4i, e_iload5i, e_iload6i, e_iload7i, e_iload8i, e_iload9i, e_iload10i, e_lload0l, e_lload1l, e_lload2l, e_lload3l, e_lload4l, e_lload5l, e_lload6l, e_lload7l, e_lload8l, e_lload9l, e_lload10l, e_aload0r, e_aload1r, e_aload2r, e_aload3r, e_aload4r, e_aload5r, e_aload6r, e_aload7r, e_aload8r, e_aload9r, e_aload10r, e_aload0n, e_aload1n, e_aload2n, e_aload3n, e_aload4n, e_aload5n, e_aload6n, e_aload7n, e_aload8n, e_aload9n, e_aload10n, e_aload0f, e_aload1f, e_aload2f, e_aload3f, e_aload4f, e_aload5f, e_aload6f, e_aload7f, e_aload8f, e_aload9f, e_aload10f, e_iinc0, e_iinc1, e_iinc2, e_iinc3, e_iinc4, e_iinc5, e_iinc6, e_iinc7, e_iinc8, e_iinc9, e_iinc10, xst_0, xst_1i, xst2_1i, xst_1r, xst2_1r, xst_1n, xst2_1n, xst_1f, xst2_1f, xst_1u, xst2_1u, xst_1l, xst2_1l, xst2_0, xst_s, xst2_s, e_istore, e_lstore, e_astore, e_astoreN, e_iadd, e_isub, e_imul, e_iand, e_ior, e_ixor, e_ishl, e_ishr, e_iushr, e_ladd, e_lsub, e_lmul, e_land, e_lor, e_lshl, e_lcmp, e_i2l, e_l2i, e_i2b, e_ineg, e_dupi, e_dupr, e_dup2, e_popi, e_popr, e_idiv, e_irem, e_ldiv, e_lrem, e_ifCond, e_if_icmp, e_ifnullR, e_ifnullN, e_ifnonnullR, e_ifnonnullN, e_goto, e_jsr, e_tsw, e_lsw, e_getfield, e_dload, e_fload, e_putfield, e_dstore, e_fstore, e_fstoreN, e_monitor, e_new, e_newarray, e_anewarray, e_mnew, e_alen, e_slen, e_schr, e_alenF, e_iaload, e_ialoadF, e_baload, e_laload, e_aaload, e_iastore, e_lastore, e_aastore, e_bastoreB, e_bastoreZ, e_copy, e_ireturnI, e_ireturnZ0, e_ireturnZ1, e_ireturnZb, e_lreturn, e_areturn, e_areturnA, e_areturnN, e_return, ofI, ofIm, ofJ, cat_i, cat_l, cat_r, cat_f, cat_n, xent_0, xent_i, xent_l, xent_r, xent_n, xent_f, xentry, xrf_s, xrf_n, List.getD_cons_zero, List.getD_cons_succ, List.length_cons, List.length_nil, List.cons_append, List.nil_append, List.append_nil, List.map_cons, List.map_nil, List.sum_cons, List.sum_nil, List.replicate, oT_s, oT_n, true_and, and_true, Nat.reduceAdd, Nat.reduceSub, Nat.reduceLeDiff, Nat.reduceEqDiff, Nat.reduceLT, Nat.reduceDiv, Nat.reduceMod, Nat.reduceMul, eq_self, ofN, nI_dec, nI_11, or_true, true_or, false_or, or_false, nI_e0, nI_0lt, Nat.succ_ne_zero, Nat.zero_lt_succ, lg_cmp_gt, lg_cmp_lt, lg_cmp_eq, nI_lt0, nI_add, pk_sub, pk_mul, Nat.add_sub_cancel, nI_clamp, vp_in_T, nI_ltI, nI_leI, nI_eqI, Nat.zero_add, Nat.add_zero, xc_eq, xc_ne, xc_lt, xc_ge, xc_gt, xc_le, bI_0, bI_0n, bI_n0, not_true_eq_false, not_false_eq_true, if_true, if_false, ite_true, ite_false, decide_true, decide_false, and_self, and_true, true_and, l_lt]
  ((repeat' split) <;> simp_all [bI, -Int32.not_lt, -Int32.not_le])
theorem getW_f {s : Nat → Int32} (hg : getW h w t = wS s) : xI h w 0 = s 0 ∧ xI h w 1 = s 11 ∧ xI h w 2 = s 1 ∧ xI h w 3 = s 2 ∧ xI h w 4 = s 10 ∧ xI h w 5 = s 12 ∧ xI h t = trS s := by
  have e1 : xI h w = (wS s).1 := congrArg Prod.fst hg
  have e2 : xI h t = (wS s).2 := congrArg Prod.snd hg
  rw [e1, e2]
  exact ⟨rfl, rfl, rfl, rfl, rfl, rfl, rfl⟩
end RL
