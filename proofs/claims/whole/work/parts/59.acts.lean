section AC
variable {L d : Nat} {xs : Nat → Int32} {h h1 : xH} {Q : xQ} {p o n w t k : Nat} {x y z fo xx : Int32} {T : Nat} {tp : Nat → Int32} {R : List (List Cl)} {σ σ' : Sn} {u u' : Nat} {H H' : Nat → Nat → Int32} {ι : Nat → Option Sn} {s s' f g : Nat → Int32}
theorem SInv.now {r : Nat} (hi : SInv r (s, fo, xx)) (e : ∀ i, i < 10 ∨ 55 ≤ i → s' i = s i) (hS : ∃ n, SOK n s') (he : ∃ e, e ≤ 999 ∧ s' 10 = nI e) : SInv r (s', fo, xx) := by
  obtain ⟨n, k, e0, a1, a2, a3, a4, a5, a6, a7, a8, a9⟩ := hi
  obtain ⟨n', hS'⟩ := hS
  obtain ⟨e1, e2, e3⟩ := he
  dsimp only at a1 a2 a3 a4 a5 a6 a7 a8 a9
  have en : n' = n := by
    have q1 := hS'.2.1
    rw [e 2 (by decide), a1.2.1] at q1
    exact ((nI_eq (by have := a1.1; omega) (by have := hS'.1; omega)).mp q1).symm
  subst en
  refine ⟨n', k, e1, hS', a2.cg (begS_cg fun i hi => (e i (by omega)).symm), ?_, ⟨e3, e2⟩, ?_, ?_, a7, a8, ?_⟩
  · dsimp only; rw [e 0 (by decide)]; exact a3
  · dsimp only; rw [e 140 (by decide)]; exact a5
  · intro i hi; dsimp only; rw [e _ (by omega), e _ (by omega), e _ (by omega)]; exact a6 i hi
  · intro i hi; dsimp only; rw [e i (by omega)]; exact a9 i hi
theorem SceneC.now {P : Nat → Prop} (hs : SceneC h 11 (s, fo, xx)) (hf : Fr P h h1) (hP : ∀ a, 11 ≤ a → a ≤ 13 ∨ 16 ≤ a ∧ a ≤ 18 → ¬ P a) (hg : getW h1 14 15 = wS s') (e : ∀ i, i < 10 ∨ 55 ≤ i → s' i = s i) : SceneC h1 11 (s', fo, xx) := by
  obtain ⟨b1, b2, b3, b4, b5, b6⟩ := hs
  refine ⟨hg, ?_, ?_, ?_, ?_, ?_⟩
  · rw [getW_fr hf (hP _ (by decide) (by decide)) (hP _ (by decide) (by decide)), wS_cg (begS_cg (s := s') (s' := s) fun i hi => e i (by omega))]; exact b2
  · rw [hf.2.2.2 11 (hP _ (by decide) (by decide))]; exact b3.trans (e 140 (by decide)).symm
  · rw [hf.2.2.2 11 (hP _ (by decide) (by decide))]; exact b4
  · rw [hf.2.2.2 11 (hP _ (by decide) (by decide))]; exact b5
  · intro k hk h10 i hi
    dsimp only at hk ⊢
    rw [e 140 (by decide)] at hk
    rw [hf.2.2.2 (11 + 5) (hP _ (by decide) (by decide)), hf.2.2.2 (11 + 6) (hP _ (by decide) (by decide)), hf.2.2.2 (11 + 7) (hP _ (by decide) (by decide)), e _ (by omega), e _ (by omega), e _ (by omega)]
    exact b6 k hk h10 i hi
theorem HInv.now (hv : HInv s u H) (e : ∀ i, i < 10 ∨ 55 ≤ i → s' i = s i) : HInv s' u H := by
  refine ⟨hv.1, fun j hj => ?_⟩
  obtain ⟨a1, a2, a3⟩ := hv.2 j hj
  exact ⟨a1, a2, fun i hi => (a3 i hi).trans (e i (by omega)).symm⟩
/-- an act: kept, done, on both sides -/
theorem Rel.done {h2 h3 h4 : xH} (hC : CRel h T tp R (s, fo, xx) u H ι) (hR : RRel h T tp R (s, fo, xx) u H ι) (hG : Good T tp R (s, fo, xx) u H ι) (f1 : Fr (fun a => 20 ≤ a ∧ a ≤ 61) h h1) (hh : HistC h1 (keepU u) (keepH H s)) (f2 : Fr (fun a => a = 14 ∨ a = 15 ∨ a = 64) h1 h2) (hg : getW h2 14 15 = wS s') (f3 : FrR (· = 139) (· = 25) h2 h3) (hh3 : HistR h3 (keepU u) (keepH H s)) (f4 : FrR PD JD h3 h4) (hs4 : xI h4 137 = s') (e : ∀ i, i < 10 ∨ 55 ≤ i → s' i = s i) (hS : ∃ n, SOK n s') (he : ∃ e, e ≤ 999 ∧ s' 10 = nI e) : Rel h4 := by
  obtain ⟨n, k, e0, a1, a2, a3, a4, a5, a6, a7, a8, a9⟩ := id hG.inv
  have hf12 : Fr (fun a => a = 14 ∨ a = 15 ∨ a = 64 ∨ 20 ≤ a ∧ a ≤ 61) h h2 := (f1.mono (fun a z => by omega)).tr (f2.mono (fun a z => by omega))
  have hf34 : FrR (fun a => a = 139 ∨ PD a) (fun j => j = 25 ∨ JD j) h2 h4 := (f3.mono (fun a z => .inl z) (fun a z => .inl z)).tr (f4.mono (fun a z => .inr z) (fun a z => .inr z))
  have hR2 := hR.fr hf12 (fun a z => by omega)
  refine Rel.act (σ' := (s', fo, xx)) hC hR hG hf12 (fun a z => by omega) (hC.scn.now hf12 (fun a z1 z2 z3 => by omega) hg e) (hh.fr f2 (fun a z1 z2 z3 => by omega)) hf34 ?_ ?_ ⟨hs4, ?_, ?_⟩ (hh3.fr f4 (by unfold PD; omega) (by unfold JD; omega)) (hG.inv.now e hS he) ((hG.his.keep a1 ⟨e0, a4.2, a4.1⟩).now e)
  · intro a z; unfold PD at z; unfold AP; omega
  · intro a z; unfold JD at z; unfold AJ; omega
  · rw [hf34.2.2.2.2 21 (by unfold JD; omega)]; exact hR2.scn.2.1
  · rw [hf34.2.2.2.2 22 (by unfold JD; omega)]; exact hR2.scn.2.2
end AC
