section BG
variable {L d : Nat} {xs : Nat → Int32} {h h1 : xH} {Q : xQ} {p o n w t k : Nat} {x y z fo xx : Int32} {T : Nat} {tp : Nat → Int32} {R : List (List Cl)} {σ σ' : Sn} {u u' : Nat} {H H' : Nat → Nat → Int32} {ι : Nat → Option Sn} {s s' f g : Nat → Int32}
variable {a b j : Nat}
/-! how it begins -/
def Zr (h : xH) : Prop := ∀ b j, j ≠ 8 → j ≠ 21 → xI h b j = 0
theorem Zr.new (hz : Zr h) {k : (FieldType ⊕ Nat) × Nat} : Zr (xnew h k) := by
  intro b j h1 h2
  show upr h.2.2.1 h.1 (fun _ => 0) b j = 0
  unfold upr
  split
  · rfl
  · exact hz b j h1 h2
theorem Zr.new2 (hz : Zr h) {n m : Nat} : Zr (xnew2 h n m) := by
  intro b j h1 h2
  show (if h.1 ≤ b ∧ b < h.1 + 1 + n then 0 else h.2.2.1 b j) = 0
  split
  · rfl
  · exact hz b j h1 h2
theorem Zr.sR (hz : Zr h) {y : Option Nat} : Zr (setR h a j y) := fun b k h1 h2 => by rw [xI_sR]; exact hz b k h1 h2
theorem Zr.sI (hz : Zr h) (hj : j = 8 ∨ j = 21) : Zr (setI h a j x) := fun b k h1 h2 => by rw [xI_sI, if_neg (fun z => by omega)]; exact hz b k h1 h2
theorem Zr.aa (hz : Zr h) {f n : Nat} {ty : FieldType} : Zr (iA w f ty n h) := hz.new.sR
theorem Zr.oo {f ci n : Nat} {mk : Nat → xH → xH} (hm : ∀ w h, Zr h → Zr (mk w h)) (hz : Zr h) : Zr (iO w f ci n mk h) := (hm _ _ hz.new).sR
theorem Zr.W (w : Nat) (h : xH) (hz : Zr h) : Zr (iW w h) := hz.aa
theorem Zr.T' (w : Nat) (h : xH) (hz : Zr h) : Zr (iT w h) := hz.aa
theorem Zr.D (w : Nat) (h : xH) (hz : Zr h) : Zr (iD w h) := hz.aa.aa
theorem Zr.RR (w : Nat) (h : xH) (hz : Zr h) : Zr (iRR w h) := hz.aa.aa
theorem Zr.Pl (w : Nat) (h : xH) (hz : Zr h) : Zr (iPl w h) := hz.aa.aa.aa.aa.aa.aa
theorem Zr.FR (w : Nat) (h : xH) (hz : Zr h) : Zr (iFR w h) := (Zr.oo Zr.W hz).aa
theorem Zr.Tr (w : Nat) (h : xH) (hz : Zr h) : Zr (iTr w h) := (Zr.oo Zr.D (Zr.oo Zr.W hz)).aa.aa
theorem Zr.Sc (w : Nat) (h : xH) (hz : Zr h) : Zr (iSc w h) := (Zr.oo Zr.W (Zr.oo Zr.W hz)).aa.aa.aa.sI (.inl rfl)
theorem Zr.Hl {k0 : Nat} : ∀ k i (h : xH), Zr h → Zr (iHl k0 i k h)
  | 0, _, _, hz => hz
  | k + 1, i, h, hz => Zr.Hl k (i + 1) _ (Zr.W _ _ hz.new).sR
theorem Zr.Hi (w : Nat) (h : xH) (hz : Zr h) : Zr (iHi w h) := Zr.Hl 20 0 _ hz.aa
theorem Zr.Gu (w : Nat) (h : xH) (hz : Zr h) : Zr (iGu w h) := ((Zr.oo Zr.D (Zr.oo Zr.W hz)).new2.sR).aa
theorem Zr.Im {k0 : Nat} : ∀ k i (h : xH), Zr h → Zr (iIm k0 i k h)
  | 0, _, _, hz => hz
  | k + 1, i, h, hz => Zr.Im k (i + 1) _ (Zr.Sc _ _ hz.new).sR
theorem Zr.RF0 (w : Nat) (h : xH) (hz : Zr h) : Zr (iRF0 w h) := Zr.oo Zr.Gu (Zr.oo Zr.Tr (Zr.oo Zr.Pl (Zr.oo Zr.D (Zr.oo Zr.Hi ((Zr.oo Zr.Sc ((Zr.oo Zr.RR (Zr.oo Zr.FR (Zr.oo Zr.T' hz))).aa)).aa)))))
theorem Zr.RF (w : Nat) (h : xH) (hz : Zr h) : Zr (iRF w h) := Zr.Im 4 0 _ (Zr.RF0 w h hz)
theorem Zr.Mo (w : Nat) (h : xH) (hz : Zr h) : Zr (iMo w h) := ((hz.aa.aa.aa.aa.aa.aa.aa.aa.aa.aa).sI (.inr rfl)).aa.aa.aa.aa.aa.aa.aa.aa.aa.aa.aa.aa.aa.aa.aa.aa
theorem Zr.B : Zr hB := Zr.Mo _ _ (Zr.RF 0 _ (Zr.new (fun _ _ _ _ => rfl))).new
def q8B (b : Nat) : Bool := decide (b = 11 ∨ b = 95 ∨ b = 103 ∨ b = 111 ∨ b = 119)
theorem hB_8 : ∀ b, b < 154 → xI hB b 8 = if q8B b = true then -(nI 1) else 0 := by decide +kernel
theorem hB_21 : ∀ b, b < 154 → xI hB b 21 = if b = 127 then -(nI 1) else 0 := by decide +kernel
theorem hB_0 (hb : b < 154) (h1' : j = 8 → q8B b = false) (h2' : j = 21 → b ≠ 127) : xI hB b j = 0 := by
  by_cases q8 : j = 8
  · subst q8
    rw [hB_8 b hb, h1' rfl, if_neg (by decide)]
  · by_cases q21 : j = 21
    · subst q21
      rw [hB_21 b hb, if_neg (h2' rfl)]
    · exact Zr.B b j q8 q21
def s0 : Nat → Int32 := fun _ => 0
theorem wS_0 : wS s0 = (fun _ => 0, fun _ => 0) := by
  refine Prod.ext (funext fun k => ?_) (funext fun k => ?_)
  · show (if k = 0 then (0 : Int32) else if k = 1 then 0 else if k = 2 then 0 else if k = 3 then 0 else if k = 4 then 0 else if k = 5 then 0 else 0) = 0
    (repeat' split) <;> rfl
  · show trS s0 k = 0
    unfold trS s0
    (repeat' split) <;> rfl
theorem beg_0 : begS s0 = s0 := by
  funext i
  unfold begS s0
  (repeat' split) <;> rfl
theorem row_0 (hb : b < 154) (h1' : q8B b = false) (h2' : b ≠ 127) : xI hB b = fun _ => 0 := funext fun j => hB_0 hb (fun _ => h1') (fun _ => h2')
theorem get_0 (hw : w < 154) (ht : t < 154) (h1' : q8B w = false) (h2' : q8B t = false) (h3' : w ≠ 127) (h4' : t ≠ 127) : getW hB w t = wS s0 := by
  rw [wS_0]; unfold getW; rw [row_0 hw h1' h3', row_0 ht h2' h4']
theorem SOK_0 : SOK 0 s0 := ⟨by decide, rfl, by decide, fun o _ => ⟨0, by decide, rfl⟩, ⟨0, by decide, rfl⟩, by decide⟩
theorem q8_n (h1' : b ≠ 11) (h2' : b < 95 ∨ (b - 95) % 8 ≠ 0) : q8B b = false := decide_eq_false (by omega)
theorem Sc_0 : SceneC hB 11 (s0, -(nI 1), 0) := by
  refine ⟨?_, ?_, ?_, ?_, ?_, ?_⟩
  · exact get_0 (by decide) (by decide) (by decide) (by decide) (by decide) (by decide)
  · show getW hB 12 13 = wS (begS s0)
    rw [beg_0]
    exact get_0 (by decide) (by decide) (by decide) (by decide) (by decide) (by decide)
  · exact hB_0 (by decide) (fun z => by omega) (fun z => by omega)
  · exact hB_0 (by decide) (fun z => by omega) (fun z => by omega)
  · exact hB_8 11 (by decide)
  · intro k hk k10 i hi
    exfalso
    have hk' : nI 0 = nI k := hk
    have := (nI_eqI (show 0 < 2 ^ 31 by decide) (by omega)).mp hk'
    omega
theorem Hi_0 : HistC hB 0 (fun _ _ => 0) := by
  refine ⟨0, by decide, ?_, ?_, fun i hi => ⟨s0, ?_⟩, fun j hj => by omega⟩
  · exact hB_0 (by decide) (fun z => by omega) (fun z => by omega)
  · exact hB_0 (by decide) (fun z => by omega) (fun z => by omega)
  · exact get_0 (by omega) (by omega) (q8_n (by omega) (by omega)) (q8_n (by omega) (by omega)) (by omega) (by omega)
theorem Im_0 : ImgC hB (fun _ => none) := by
  intro k hk
  refine ⟨?_, ⟨s0, ?_⟩, ⟨s0, ?_⟩, fun σ hs => (by cases hs)⟩
  · exact hB_0 (by omega) (fun z => by omega) (fun z => by omega)
  · exact get_0 (by omega) (by omega) (q8_n (by omega) (by omega)) (q8_n (by omega) (by omega)) (by omega) (by omega)
  · exact get_0 (by omega) (by omega) (q8_n (by omega) (by omega)) (q8_n (by omega) (by omega)) (by omega) (by omega)
theorem Room_0 : Room hB ([] : List (List Cl)).length := ⟨hB_1, Nat.le_add_right _ _⟩
theorem CRel_0 : CRel hB 0 s0 [] (s0, -(nI 1), 0) 0 (fun _ _ => 0) (fun _ => none) := by
  refine ⟨Bas.rf, Room_0, ⟨?_, fun i hi => by omega⟩, ⟨?_, fun i cls hi => (by cases hi)⟩, Sc_0, Hi_0, Im_0, ⟨s0, ?_⟩, ⟨s0, ?_⟩, ⟨s0, ?_⟩⟩
  · exact hB_0 (by decide) (fun z => by omega) (fun z => by omega)
  · exact hB_0 (by decide) (fun z => by omega) (fun z => by omega)
  · exact get_0 (by decide) (by decide) (by decide) (by decide) (by decide) (by decide)
  · exact get_0 (by decide) (by decide) (by decide) (by decide) (by decide) (by decide)
  · exact get_0 (by decide) (by decide) (by decide) (by decide) (by decide) (by decide)
theorem RRel_0 : RRel hB 0 s0 [] (s0, -(nI 1), 0) 0 (fun _ _ => 0) (fun _ => none) := by
  refine ⟨⟨?_, fun i hi => by omega⟩, ⟨?_, fun i cls hi => (by cases hi)⟩, ⟨?_, ?_, ?_⟩, ⟨?_, fun j hj => by omega⟩, fun k hk => ⟨?_, fun σ hs => (by cases hs)⟩⟩
  · exact hB_0 (by decide) (fun z => by omega) (fun z => by omega)
  · exact hB_0 (by decide) (fun z => by omega) (fun z => by omega)
  · exact row_0 (by decide) (by decide) (by decide)
  · exact hB_21 127 (by decide)
  · exact hB_0 (by decide) (fun z => by omega) (fun z => by omega)
  · exact hB_0 (by decide) (fun z => by omega) (fun z => by omega)
  · exact hB_0 (by decide) (fun z => by decide) (fun z => by omega)
theorem Good_0 : Good 0 s0 [] (s0, -(nI 1), 0) 0 (fun _ _ => 0) (fun _ => none) := ⟨by decide, fun i hi => by omega, by decide, ⟨0, 0, 0, SOK_0, by rw [beg_0]; exact SOK_0, .inl rfl, ⟨rfl, by decide⟩, ⟨rfl, by decide⟩, fun i hi => by omega, by decide, .inl rfl, fun i _ => rfl⟩, ⟨by decide, fun j hj => by omega⟩, fun k hk σ' hs => (by cases hs)⟩
theorem Rel_B : Rel hB := ⟨0, s0, [], (s0, -(nI 1), 0), 0, fun _ _ => 0, fun _ => none, CRel_0, RRel_0, Good_0⟩
end BG
