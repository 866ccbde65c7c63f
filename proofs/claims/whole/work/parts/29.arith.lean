/-! numbers: comparisons as the machine makes them, booleans as ints -/
theorem bI_0 (b : Bool) : (bI b = 0) = (b = false) := by cases b <;> decide
theorem bI_n0 (b : Bool) : (bI b = 1) = (b = true) := by cases b <;> decide
theorem bI_z (b : Bool) : (bI b = 0 ∨ bI b = 1) = True := by cases b <;> decide
theorem zb0 : (nI 0 = 0 ∨ nI 0 = 1) = True := by decide
theorem zb1 : (nI 1 = 0 ∨ nI 1 = 1) = True := by decide
theorem bI_0n (b : Bool) : (bI b = nI 0) = (b = false) := by cases b <;> decide
theorem bI_f : nI 0 = bI false := by decide
theorem bI_t : nI 1 = bI true := by decide
theorem xc_eq (x y : Int32) : (xcond .eq x y = true) = (x = y) := by simp [xcond]
theorem xc_ne (x y : Int32) : (xcond .ne x y = true) = (¬ x = y) := by simp [xcond]
theorem xc_lt (x y : Int32) : (xcond .lt x y = true) = (x < y) := by simp [xcond]
theorem xc_ge (x y : Int32) : (xcond .ge x y = true) = (¬ x < y) := by simp [xcond, Int32.not_lt]
theorem xc_gt (x y : Int32) : (xcond .gt x y = true) = (y < x) := by simp [xcond]
theorem xc_le (x y : Int32) : (xcond .le x y = true) = (¬ y < x) := by simp [xcond, Int32.not_lt]
theorem vp_in_T {n N : Nat} (h : n < N) (hN : N < 2 ^ 31) : vp_in (nI n) N = True := eq_true (vp_in_nI h hN)
theorem nI_eqI {a b : Nat} (ha : a < 2 ^ 31) (hb : b < 2 ^ 31) : (nI a = nI b) = (a = b) := propext (nI_eq ha hb)
theorem cl_0 : (0 : Int32) = nI 0 := nI_0.symm
theorem oT_s (v : Value) : (some v : Option Value).toList = [v] := rfl
theorem oT_n : (none : Option Value).toList = [] := rfl
/-! rows of the heap -/
theorem setI_row (h : xH) (a j : Nat) (x : Int32) : setI h a j x = rowI h a (upd (xI h a) j x) := by
  unfold setI rowI
  refine congrArg (fun z => (h.1, h.2.1, z, h.2.2.2.1, h.2.2.2.2)) ?_
  funext b k
  unfold up2 upr upd
  by_cases e : b = a
  · subst e
    by_cases q : k = j
    · simp [q]
    · simp [q, xI]
  · simp [e]
theorem rowI_self (h : xH) (a : Nat) : rowI h a (xI h a) = h := by
  unfold rowI
  obtain ⟨n, s, i, j, r⟩ := h
  refine congrArg (fun z => (n, s, z, j, r)) ?_
  funext b
  unfold upr xI
  by_cases e : b = a
  · simp [e]
  · simp [e]
theorem rowI_row (h : xH) (a : Nat) (f g : Nat → Int32) : rowI (rowI h a f) a g = rowI h a g := by
  unfold rowI
  refine congrArg (fun z => (h.1, h.2.1, z, h.2.2.2.1, h.2.2.2.2)) ?_
  funext b
  unfold upr
  by_cases e : b = a
  · simp [e]
  · simp [e]
theorem rowI_comm (h : xH) {a b : Nat} (hab : a ≠ b) (f g : Nat → Int32) : rowI (rowI h a f) b g = rowI (rowI h b g) a f := by
  unfold rowI
  refine congrArg (fun z => (h.1, h.2.1, z, h.2.2.2.1, h.2.2.2.2)) ?_
  funext c
  unfold upr
  by_cases e : c = a
  · subst e; simp [hab]
  · simp [e]
theorem xI_row_eq (h : xH) (a : Nat) (f : Nat → Int32) : xI (rowI h a f) a = f := by rw [xI_ro, if_pos rfl]
theorem xI_row_ne (h : xH) {a b : Nat} (f : Nat → Int32) (e : b ≠ a) : xI (rowI h a f) b = xI h b := by rw [xI_ro, if_neg e]
theorem upd_eq (f : Nat → Int32) (j : Nat) (x : Int32) : upd f j x j = x := by simp [upd]
theorem upd_ne (f : Nat → Int32) {i j : Nat} (x : Int32) (e : i ≠ j) : upd f j x i = f i := by simp [upd, e]
/-- loops: over places, and the first of all that is so -/
def forF {σ : Type} (f : Nat → σ → σ) : Nat → Nat → σ → σ
  | _, 0, s => s
  | i, k + 1, s => forF f (i + 1) k (f i s)
def anyF (f : Nat → Bool) : Nat → Nat → Bool
  | _, 0 => false
  | i, k + 1 => if f i = true then true else anyF f (i + 1) k
theorem nI_s (n : Nat) : nI n + nI 1 = nI (n + 1) := nI_add n 1
theorem nI_lt0 {n : Nat} (h : n < 2 ^ 31) : (nI n < 0) = False := eq_false (nI_pos h)
theorem nI_e0 {n : Nat} (h : n < 2 ^ 31) : (nI n = 0) = (n = 0) := by rw [← nI_0]; exact nI_eqI h (by omega)
theorem nI_0lt {n : Nat} (h : n < 2 ^ 31) : (0 < nI n) = (0 < n) := by rw [← nI_0]; exact propext (nI_ltI (by omega) h)
theorem nI_11 : (nI 1 = 1) = True := by decide
theorem nI_dec (a : Nat) : nI (a + 1) + -(nI 1) = nI a := by rw [← nI_s, Int32.add_assoc, Int32.add_right_neg, Int32.add_zero]
theorem ofN (n : Nat) : Int32.ofNat n = nI n := by simp [nI]
theorem al_i {h : xH} {c : Nat} (hc : xis h c (.inl .int)) : (∃ ty, xis h c (.inl ty) ∧ ty ∈ [FieldType.int, .byte, .long, .boolean, .object "RankFord$Rule"]) = True := eq_true ⟨.int, hc, by decide⟩
theorem al_l {h : xH} {c : Nat} (hc : xis h c (.inl .long)) : (∃ ty, xis h c (.inl ty) ∧ ty ∈ [FieldType.int, .byte, .long, .boolean, .object "RankFord$Rule"]) = True := eq_true ⟨.long, hc, by decide⟩
