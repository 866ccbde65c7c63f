section TL
variable {L d : Nat} {xs : Nat → Int32} {h h1 : xH} {Q : xQ} {p o n w t k : Nat} {x y z fo xx : Int32} {T : Nat} {tp : Nat → Int32} {R : List (List Cl)} {σ σ' : Sn} {u u' : Nat} {H H' : Nat → Nat → Int32} {ι : Nat → Option Sn} {s s' f g : Nat → Int32}
variable {B : Nat → Nat} {a b c e k m q l f0 v f W st : Nat} {vs : List Nat} {r r' : Nat → Int32}
def rowS (r : Nat → Int32) (i : Nat) : Int32 := if i < 110 then r i else 0
def r0F : Nat → Int32 := fun _ => 0
def tellR (st n : Nat) (vs : List Nat) (r : Nat → Int32) : Nat → Int32 :=
  if st = 0 then (fun i => if i = 109 then nI (vs.getD 0 0) else if i = 1 then nI (vs.getD 1 0) else if i = 0 then nI 1 else if 73 ≤ i ∧ i < 109 then nI 10 else r i)
  else if st = 1 then (fun i => if i = 55 + n then nI (vs.getD 0 0) else if i = 67 + n then nI (vs.getD 1 0) else if i = 61 + n then nI (vs.getD 2 0) else if i = 2 then nI (n + 1) else r i)
  else (fun i => if i = 73 + 6 * vs.getD 0 0 + vs.getD 1 0 then nI (vs.getD 2 0) else r i)
theorem tell_1 {v0 v1 v2 : Nat} : tellR 1 n [v0, v1, v2] r = fun i => if i = 55 + n then nI v0 else if i = 67 + n then nI v1 else if i = 61 + n then nI v2 else if i = 2 then nI (n + 1) else r i := rfl
theorem tell_2 {v0 v1 v2 : Nat} : tellR 2 n [v0, v1, v2] r = fun i => if i = 73 + 6 * v0 + v1 then nI v2 else r i := rfl
theorem be_1 : (wS (begS (rowS r))).1 k = if k = 0 then r 0 else if k = 1 then r 109 else if k = 2 then r 1 else if k = 3 then r 2 else 0 := by
  show (if k = 0 then _ else _) = _
  by_cases q0 : k = 0
  · subst q0; rfl
  · by_cases q1 : k = 1
    · subst q1; rfl
    · by_cases q2 : k = 2
      · subst q2; rfl
      · by_cases q3 : k = 3
        · subst q3; rfl
        · by_cases q4 : k = 4
          · subst q4; rfl
          · by_cases q5 : k = 5
            · subst q5; rfl
            · rw [if_neg q0, if_neg q1, if_neg q2, if_neg q3, if_neg q4, if_neg q5, if_neg q0, if_neg q1, if_neg q2, if_neg q3]
theorem be_s {i : Nat} (h1' : 13 ≤ i) (h2' : i < 55) : begS (rowS r) i = r (54 + i) := by
  unfold begS rowS
  rw [if_neg (by omega), if_neg (by omega), if_neg (by omega), if_pos ⟨h1', h2'⟩, if_pos (by omega)]
theorem be_t {i : Nat} (h1' : 55 ≤ i) (h2' : i < 110) : begS (rowS r) i = r i := by
  unfold begS rowS
  rw [if_neg (by omega), if_neg (by omega), if_neg (by omega), if_neg (by omega), if_pos (by omega)]
theorem be_2 {i : Nat} : (wS (begS (rowS r))).2 i = if i < 6 then r (55 + i) else if i < 12 then r (67 + (i - 6)) else if i < 18 then r (61 + (i - 12)) else if i < 54 then r (73 + (i - 18)) else 0 := by
  show trS (begS (rowS r)) i = _
  unfold trS
  by_cases q0 : i < 6
  · rw [if_pos q0, if_pos q0, be_t (by omega) (by omega)]
  · rw [if_neg q0, if_neg q0]
    by_cases q1 : i < 12
    · rw [if_pos q1, if_pos q1, be_s (by omega) (by omega)]; congr 1; omega
    · rw [if_neg q1, if_neg q1]
      by_cases q2 : i < 18
      · rw [if_pos q2, if_pos q2, be_t (by omega) (by omega)]
      · rw [if_neg q2, if_neg q2]
        by_cases q3 : i < 54
        · rw [if_pos q3, if_pos q3, be_s (by omega) (by omega)]; congr 1; omega
        · rw [if_neg q3, if_neg q3]
theorem WS_ext {A C : WS} (h1' : ∀ k, A.1 k = C.1 k) (h2' : ∀ k, A.2 k = C.2 k) : A = C := Prod.ext (funext h1') (funext h2')
theorem forF_upd {g : Nat → Int32} : ∀ k i (f : Nat → Int32) j, forF (fun i f => upd f i (g i)) i k f j = if i ≤ j ∧ j < i + k then g j else f j
  | 0, i, f, j => by rw [if_neg (by omega)]; rfl
  | k + 1, i, f, j => by
    rw [forF, forF_upd k (i + 1)]
    by_cases z : j = i
    · subst z; rw [if_neg (by omega), if_pos (by omega), upd_eq]
    · rw [upd_ne _ _ z]
      by_cases y : i + 1 ≤ j ∧ j < i + 1 + k
      · rw [if_pos y, if_pos (by omega)]
      · rw [if_neg y, if_neg (by omega)]
theorem W_begin {v0 v1 : Nat} : beginW (wS s) (nI v0) (nI v1) = wS (begS (rowS (tellR 0 n [v0, v1] r0F))) := by
  refine WS_ext (fun k => ?_) (fun k => ?_)
  · rw [be_1]
    unfold beginW tellR wS
    rw [if_pos rfl]
    dsimp only [upd]
    by_cases q0 : k = 0
    · subst q0; rfl
    · by_cases q1 : k = 1
      · subst q1; rfl
      · by_cases q2 : k = 2
        · subst q2; rfl
        · by_cases q3 : k = 3
          · subst q3; rfl
          · by_cases q4 : k = 4
            · subst q4; rfl
            · by_cases q5 : k = 5
              · subst q5; rfl
              · simp [q0, q1, q2, q3, q4, q5]
  · rw [be_2]
    unfold beginW tellR
    rw [if_pos rfl]
    dsimp only
    rw [forF_upd]
    by_cases q0 : k < 18
    · rw [if_pos (by omega), if_pos q0]
      (repeat' split) <;> first | rfl | omega
    · by_cases q1 : k < 54
      · rw [if_pos (by omega), if_neg q0, if_neg (by omega), if_neg (by omega), if_neg q0, if_pos q1, if_neg (by omega), if_neg (by omega), if_neg (by omega), if_pos (by omega)]
      · rw [if_neg (by omega), if_neg (by omega), if_neg (by omega), if_neg q0, if_neg q1]
        show trS s k = 0
        unfold trS
        rw [if_neg (by omega), if_neg (by omega), if_neg q0, if_neg q1]
theorem W_add {v0 v1 v2 : Nat} (hn : n < 6) : addW (wS (begS (rowS r))) n (nI v0) (nI v1) (nI v2) = wS (begS (rowS (tellR 1 n [v0, v1, v2] r))) := by
  unfold addW
  rw [if_pos hn]
  refine WS_ext (fun k => ?_) (fun k => ?_)
  · rw [be_1]
    dsimp only
    unfold upd
    rw [be_1]
    rw [tell_1]
    dsimp only
    (repeat' split) <;> first | rfl | omega
  · rw [be_2]
    dsimp only
    unfold upd
    rw [be_2]
    rw [tell_1]
    dsimp only
    (repeat' split) <;> first | rfl | omega
theorem W_think {v0 v1 v2 : Nat} (h0' : v0 < 6) (h1' : v1 < 6) : ((wS (begS (rowS r))).1, upd (wS (begS (rowS r))).2 (18 + 6 * v0 + v1) (nI v2)) = wS (begS (rowS (tellR 2 n [v0, v1, v2] r))) := by
  refine WS_ext (fun k => ?_) (fun k => ?_)
  · show (wS (begS (rowS r))).1 k = _
    rw [be_1, be_1, tell_2]
    dsimp only
    (repeat' split) <;> first | rfl | omega
  · rw [be_2]
    dsimp only
    unfold upd
    rw [be_2]
    rw [tell_2]
    dsimp only
    (repeat' split) <;> first | rfl | omega
end TL
