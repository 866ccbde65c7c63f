section FG
variable {L d : Nat} {xs : Nat → Int32} {h h1 : xH} {Q : xQ} {p o n w t k : Nat} {x y z fo xx : Int32} {T : Nat} {tp : Nat → Int32} {R : List (List Cl)} {σ σ' : Sn} {u u' : Nat} {H H' : Nat → Nat → Int32} {ι : Nat → Option Sn} {s s' f g : Nat → Int32}
variable {B : Nat → Nat} {r : Nat → Int32}
theorem bb_cg : ∀ i, i < 67 → begS (begS (rowS r)) i = begS (rowS r) i := by
  intro i hi
  by_cases q0 : i = 10
  · subst q0; rfl
  · by_cases q1 : i = 11
    · subst q1; rfl
    · by_cases q2 : i = 12
      · subst q2; rfl
      · by_cases q3 : 13 ≤ i ∧ i < 55
        · rw [be_s q3.1 q3.2]
          conv => lhs; unfold begS
          rw [if_neg q0, if_neg q1, if_neg q2, if_pos q3]
          exact be_t (by omega) (by omega)
        · conv => lhs; unfold begS
          rw [if_neg q0, if_neg q1, if_neg q2, if_neg q3]
          rfl
theorem told_ok (hr : RI r) : SOK (pnF r) (begS (rowS r)) := by
  obtain ⟨n6, e2⟩ := hr.pn
  refine ⟨n6, e2, hr.2.1, fun o ho => ?_, ⟨0, by decide, rfl⟩, ?_⟩
  · rw [be_t (by omega) (by omega)]; exact hr.2.2.1 o ho
  · show (nI 0).toNatClampNeg < 2 ^ pnF r
    rw [nI_clamp (by decide)]; exact Nat.pos_of_ne_zero (by simp)
theorem told_inv (hr : RI r) (h0 : r 0 = nI 1) (hI : SInv k (s, fo, xx)) : SInv k (begS (rowS r), fo, xx) := by
  obtain ⟨n, k', e, -, -, -, -, -, -, b5, b6, -⟩ := hI
  refine ⟨pnF r, 0, 0, told_ok hr, (told_ok hr).cg (fun i hi => (bb_cg i hi).symm), .inr h0, ⟨rfl, by decide⟩, ⟨rfl, by decide⟩, fun i hi => by omega, b5, b6, fun i hi => ?_⟩
  show begS (rowS r) i = 0
  unfold begS rowS
  rw [if_neg (by omega), if_neg (by omega), if_neg (by omega), if_neg (by omega), if_neg (by omega)]
end FG
