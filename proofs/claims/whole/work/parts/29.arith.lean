/-! numbers: comparisons as the machine makes them, booleans as ints -/
theorem bI_0 (b : Bool) : (bI b = 0) = (b = false) := by cases b <;> decide
theorem bI_n0 (b : Bool) : (bI b = 1) = (b = true) := by cases b <;> decide
theorem bI_z (b : Bool) : (bI b = 0 ∨ bI b = 1) = True := by cases b <;> decide
theorem zb0 : (nI 0 = 0 ∨ nI 0 = 1) = True := by decide
theorem zb1 : (nI 1 = 0 ∨ nI 1 = 1) = True := by decide
theorem bI_0n (b : Bool) : (bI b = nI 0) = (b = false) := by cases b <;> decide
theorem bI_f : nI 0 = bI false := by decide
theorem bI_t : nI 1 = bI true := by decide
theorem xc_eq (x y : Int32) : (xcond .eq x y = true) = (x = y) := by simp [xcond]
theorem xc_ne (x y : Int32) : (xcond .ne x y = true) = (¬ x = y) := by simp [xcond]
theorem xc_lt (x y : Int32) : (xcond .lt x y = true) = (x < y) := by simp [xcond]
theorem xc_ge (x y : Int32) : (xcond .ge x y = true) = (¬ x < y) := by simp [xcond, Int32.not_lt]
theorem xc_gt (x y : Int32) : (xcond .gt x y = true) = (y < x) := by simp [xcond]
theorem xc_le (x y : Int32) : (xcond .le x y = true) = (¬ y < x) := by simp [xcond, Int32.not_lt]
theorem vp_in_T {n N : Nat} (h : n < N) (hN : N < 2 ^ 31) : vp_in (nI n) N = True := eq_true (vp_in_nI h hN)
theorem nI_eqI {a b : Nat} (ha : a < 2 ^ 31) (hb : b < 2 ^ 31) : (nI a = nI b) = (a = b) := propext (nI_eq ha hb)
theorem cl_0 : (0 : Int32) = nI 0 := nI_0.symm
