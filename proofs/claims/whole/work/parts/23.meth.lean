section MT
variable {L d : Nat} {xs : Nat → Int32} {as : List Value} {h : xH} {Q : xQ} {B : Nat → List Instr} {rt : Option FieldType} {is : List Instr} {ls : xL} {st : List Value}
theorem m0 : Call (pG L xs) pM (d + 1) 0 as h Q = ((xent as).length ≤ 1 ∧ Ev (pG L xs) pM d b0 (none) Q b0_0 (xentry as 1) [] h) := rfl
theorem v0 {a0 : Nat}  : Ev (pG L xs) pM d B rt Q (.invokespecial 0 :: is) ls (.ref a0 :: st) h = (((st.map fun v => v.category).sum ≤ 8) ∧ Call (pG L xs) pM d 0 [.ref a0] h (fun v h' => Ev (pG L xs) pM d B rt Q is ls (v.toList ++ st) h')) := e_invokespecial1 rfl
theorem m1 : Call (pG L xs) pM (d + 1) 1 as h Q = ((xent as).length ≤ 6 ∧ Ev (pG L xs) pM d b1 (some FieldType.int) Q b1_0 (xentry as 6) [] h) := rfl
theorem v1 {a0 : Nat} {a1 a2 : Value} : Ev (pG L xs) pM d B rt Q (.invokevirtual 1 :: is) ls (a2 :: a1 :: .ref a0 :: st) h = ((xis h a0 (.inr 0) ∧ (st.map fun v => v.category).sum ≤ 8) ∧ Call (pG L xs) pM d 1 [.ref a0, a1, a2] h (fun v h' => Ev (pG L xs) pM d B rt Q is ls (v.toList ++ st) h')) := e_invokevirtual3 rfl
theorem k1_1 : b1 (Int.toNat (.ofNat 1)) = b1_1 := rfl
theorem k1_2 : b1 (Int.toNat (.ofNat 2)) = b1_2 := rfl
theorem k1_3 : b1 (Int.toNat (.ofNat 3)) = b1_3 := rfl
theorem k1_4 : b1 (Int.toNat (.ofNat 4)) = b1_4 := rfl
theorem k1_5 : b1 (Int.toNat (.ofNat 5)) = b1_5 := rfl
theorem k1_0 : b1 (Int.toNat (.ofNat 0)) = b1_0 := rfl
theorem m2 : Call (pG L xs) pM (d + 1) 2 as h Q = ((xent as).length ≤ 6 ∧ Ev (pG L xs) pM d b2 (none) Q b2_0 (xentry as 6) [] h) := rfl
theorem v2 {a0 : Nat} {a1 a2 a3 : Value} : Ev (pG L xs) pM d B rt Q (.invokevirtual 2 :: is) ls (a3 :: a2 :: a1 :: .ref a0 :: st) h = ((xis h a0 (.inr 0) ∧ (st.map fun v => v.category).sum ≤ 8) ∧ Call (pG L xs) pM d 2 [.ref a0, a1, a2, a3] h (fun v h' => Ev (pG L xs) pM d B rt Q is ls (v.toList ++ st) h')) := e_invokevirtual4 rfl
theorem k2_1 : b2 (Int.toNat (.ofNat 1)) = b2_1 := rfl
theorem k2_2 : b2 (Int.toNat (.ofNat 2)) = b2_2 := rfl
theorem k2_0 : b2 (Int.toNat (.ofNat 0)) = b2_0 := rfl
theorem m3 : Call (pG L xs) pM (d + 1) 3 as h Q = ((xent as).length ≤ 3 ∧ Ev (pG L xs) pM d b3 (some FieldType.boolean) Q b3_0 (xentry as 3) [] h) := rfl
theorem v3 {a0 : Nat} {a1 a2 : Value} : Ev (pG L xs) pM d B rt Q (.invokevirtual 3 :: is) ls (a2 :: a1 :: .ref a0 :: st) h = ((xis h a0 (.inr 0) ∧ (st.map fun v => v.category).sum ≤ 8) ∧ Call (pG L xs) pM d 3 [.ref a0, a1, a2] h (fun v h' => Ev (pG L xs) pM d B rt Q is ls (v.toList ++ st) h')) := e_invokevirtual3 rfl
theorem k3_1 : b3 (Int.toNat (.ofNat 1)) = b3_1 := rfl
theorem k3_2 : b3 (Int.toNat (.ofNat 2)) = b3_2 := rfl
theorem k3_3 : b3 (Int.toNat (.ofNat 3)) = b3_3 := rfl
theorem k3_0 : b3 (Int.toNat (.ofNat 0)) = b3_0 := rfl
theorem m4 : Call (pG L xs) pM (d + 1) 4 as h Q = ((xent as).length ≤ 5 ∧ Ev (pG L xs) pM d b4 (some FieldType.int) Q b4_0 (xentry as 5) [] h) := rfl
theorem v4 {a0 : Nat} {a1 a2 : Value} : Ev (pG L xs) pM d B rt Q (.invokevirtual 4 :: is) ls (a2 :: a1 :: .ref a0 :: st) h = ((xis h a0 (.inr 0) ∧ (st.map fun v => v.category).sum ≤ 8) ∧ Call (pG L xs) pM d 4 [.ref a0, a1, a2] h (fun v h' => Ev (pG L xs) pM d B rt Q is ls (v.toList ++ st) h')) := e_invokevirtual3 rfl
theorem k4_1 : b4 (Int.toNat (.ofNat 1)) = b4_1 := rfl
theorem k4_2 : b4 (Int.toNat (.ofNat 2)) = b4_2 := rfl
theorem k4_3 : b4 (Int.toNat (.ofNat 3)) = b4_3 := rfl
theorem k4_4 : b4 (Int.toNat (.ofNat 4)) = b4_4 := rfl
theorem k4_5 : b4 (Int.toNat (.ofNat 5)) = b4_5 := rfl
theorem k4_0 : b4 (Int.toNat (.ofNat 0)) = b4_0 := rfl
theorem m5 : Call (pG L xs) pM (d + 1) 5 as h Q = ((xent as).length ≤ 10 ∧ Ev (pG L xs) pM d b5 (some FieldType.int) Q b5_0 (xentry as 10) [] h) := rfl
theorem v5 {a0 : Nat} {a1 a2 a3 : Value} : Ev (pG L xs) pM d B rt Q (.invokevirtual 5 :: is) ls (a3 :: a2 :: a1 :: .ref a0 :: st) h = ((xis h a0 (.inr 0) ∧ (st.map fun v => v.category).sum ≤ 8) ∧ Call (pG L xs) pM d 5 [.ref a0, a1, a2, a3] h (fun v h' => Ev (pG L xs) pM d B rt Q is ls (v.toList ++ st) h')) := e_invokevirtual4 rfl
theorem k5_1 : b5 (Int.toNat (.ofNat 1)) = b5_1 := rfl
theorem k5_2 : b5 (Int.toNat (.ofNat 2)) = b5_2 := rfl
theorem k5_3 : b5 (Int.toNat (.ofNat 3)) = b5_3 := rfl
theorem k5_4 : b5 (Int.toNat (.ofNat 4)) = b5_4 := rfl
theorem k5_5 : b5 (Int.toNat (.ofNat 5)) = b5_5 := rfl
theorem k5_6 : b5 (Int.toNat (.ofNat 6)) = b5_6 := rfl
theorem k5_0 : b5 (Int.toNat (.ofNat 0)) = b5_0 := rfl
theorem m6 : Call (pG L xs) pM (d + 1) 6 as h Q = ((xent as).length ≤ 4 ∧ Ev (pG L xs) pM d b6 (none) Q b6_0 (xentry as 4) [] h) := rfl
theorem v6 {a0 : Nat} {a1 a2 : Value} : Ev (pG L xs) pM d B rt Q (.invokevirtual 6 :: is) ls (a2 :: a1 :: .ref a0 :: st) h = ((xis h a0 (.inr 0) ∧ (st.map fun v => v.category).sum ≤ 8) ∧ Call (pG L xs) pM d 6 [.ref a0, a1, a2] h (fun v h' => Ev (pG L xs) pM d B rt Q is ls (v.toList ++ st) h')) := e_invokevirtual3 rfl
theorem k6_0 : b6 (Int.toNat (.ofNat 0)) = b6_0 := rfl
theorem m7 : Call (pG L xs) pM (d + 1) 7 as h Q = ((xent as).length ≤ 4 ∧ Ev (pG L xs) pM d b7 (none) Q b7_0 (xentry as 4) [] h) := rfl
theorem v7 {a0 : Nat} {a1 a2 a3 : Value} : Ev (pG L xs) pM d B rt Q (.invokevirtual 7 :: is) ls (a3 :: a2 :: a1 :: .ref a0 :: st) h = ((xis h a0 (.inr 0) ∧ (st.map fun v => v.category).sum ≤ 8) ∧ Call (pG L xs) pM d 7 [.ref a0, a1, a2, a3] h (fun v h' => Ev (pG L xs) pM d B rt Q is ls (v.toList ++ st) h')) := e_invokevirtual4 rfl
theorem k7_1 : b7 (Int.toNat (.ofNat 1)) = b7_1 := rfl
theorem k7_2 : b7 (Int.toNat (.ofNat 2)) = b7_2 := rfl
theorem k7_3 : b7 (Int.toNat (.ofNat 3)) = b7_3 := rfl
theorem k7_4 : b7 (Int.toNat (.ofNat 4)) = b7_4 := rfl
theorem k7_0 : b7 (Int.toNat (.ofNat 0)) = b7_0 := rfl
theorem m8 : Call (pG L xs) pM (d + 1) 8 as h Q = ((xent as).length ≤ 1 ∧ Ev (pG L xs) pM d b8 (none) Q b8_0 (xentry as 1) [] h) := rfl
theorem v8 {a0 : Nat}  : Ev (pG L xs) pM d B rt Q (.invokespecial 8 :: is) ls (.ref a0 :: st) h = (((st.map fun v => v.category).sum ≤ 8) ∧ Call (pG L xs) pM d 8 [.ref a0] h (fun v h' => Ev (pG L xs) pM d B rt Q is ls (v.toList ++ st) h')) := e_invokespecial1 rfl
theorem m9 : Call (pG L xs) pM (d + 1) 9 as h Q = ((xent as).length ≤ 3 ∧ Ev (pG L xs) pM d b9 (some FieldType.int) Q b9_0 (xentry as 3) [] h) := rfl
theorem v9 {a0 : Nat} {a1 : Value} : Ev (pG L xs) pM d B rt Q (.invokevirtual 9 :: is) ls (a1 :: .ref a0 :: st) h = ((xis h a0 (.inr 1) ∧ (st.map fun v => v.category).sum ≤ 8) ∧ Call (pG L xs) pM d 9 [.ref a0, a1] h (fun v h' => Ev (pG L xs) pM d B rt Q is ls (v.toList ++ st) h')) := e_invokevirtual2 rfl
theorem k9_1 : b9 (Int.toNat (.ofNat 1)) = b9_1 := rfl
theorem k9_2 : b9 (Int.toNat (.ofNat 2)) = b9_2 := rfl
theorem k9_3 : b9 (Int.toNat (.ofNat 3)) = b9_3 := rfl
theorem k9_4 : b9 (Int.toNat (.ofNat 4)) = b9_4 := rfl
theorem k9_0 : b9 (Int.toNat (.ofNat 0)) = b9_0 := rfl
theorem m10 : Call (pG L xs) pM (d + 1) 10 as h Q = ((xent as).length ≤ 6 ∧ Ev (pG L xs) pM d b10 (none) Q b10_0 (xentry as 6) [] h) := rfl
theorem v10 {a0 : Nat} {a1 a2 : Value} : Ev (pG L xs) pM d B rt Q (.invokevirtual 10 :: is) ls (a2 :: a1 :: .ref a0 :: st) h = ((xis h a0 (.inr 1) ∧ (st.map fun v => v.category).sum ≤ 8) ∧ Call (pG L xs) pM d 10 [.ref a0, a1, a2] h (fun v h' => Ev (pG L xs) pM d B rt Q is ls (v.toList ++ st) h')) := e_invokevirtual3 rfl
theorem k10_1 : b10 (Int.toNat (.ofNat 1)) = b10_1 := rfl
theorem k10_2 : b10 (Int.toNat (.ofNat 2)) = b10_2 := rfl
theorem k10_3 : b10 (Int.toNat (.ofNat 3)) = b10_3 := rfl
theorem k10_4 : b10 (Int.toNat (.ofNat 4)) = b10_4 := rfl
theorem k10_5 : b10 (Int.toNat (.ofNat 5)) = b10_5 := rfl
theorem k10_6 : b10 (Int.toNat (.ofNat 6)) = b10_6 := rfl
theorem k10_7 : b10 (Int.toNat (.ofNat 7)) = b10_7 := rfl
theorem k10_8 : b10 (Int.toNat (.ofNat 8)) = b10_8 := rfl
theorem k10_9 : b10 (Int.toNat (.ofNat 9)) = b10_9 := rfl
theorem k10_10 : b10 (Int.toNat (.ofNat 10)) = b10_10 := rfl
theorem k10_11 : b10 (Int.toNat (.ofNat 11)) = b10_11 := rfl
theorem k10_12 : b10 (Int.toNat (.ofNat 12)) = b10_12 := rfl
theorem k10_13 : b10 (Int.toNat (.ofNat 13)) = b10_13 := rfl
theorem k10_0 : b10 (Int.toNat (.ofNat 0)) = b10_0 := rfl
theorem m11 : Call (pG L xs) pM (d + 1) 11 as h Q = ((xent as).length ≤ 3 ∧ Ev (pG L xs) pM d b11 (none) Q b11_0 (xentry as 3) [] h) := rfl
theorem v11 {a0 : Nat} {a1 a2 : Value} : Ev (pG L xs) pM d B rt Q (.invokevirtual 11 :: is) ls (a2 :: a1 :: .ref a0 :: st) h = ((xis h a0 (.inr 1) ∧ (st.map fun v => v.category).sum ≤ 8) ∧ Call (pG L xs) pM d 11 [.ref a0, a1, a2] h (fun v h' => Ev (pG L xs) pM d B rt Q is ls (v.toList ++ st) h')) := e_invokevirtual3 rfl
theorem k11_1 : b11 (Int.toNat (.ofNat 1)) = b11_1 := rfl
theorem k11_2 : b11 (Int.toNat (.ofNat 2)) = b11_2 := rfl
theorem k11_3 : b11 (Int.toNat (.ofNat 3)) = b11_3 := rfl
theorem k11_0 : b11 (Int.toNat (.ofNat 0)) = b11_0 := rfl
theorem m12 : Call (pG L xs) pM (d + 1) 12 as h Q = ((xent as).length ≤ 4 ∧ Ev (pG L xs) pM d b12 (none) Q b12_0 (xentry as 4) [] h) := rfl
theorem v12 {a0 : Nat} {a1 a2 a3 : Value} : Ev (pG L xs) pM d B rt Q (.invokevirtual 12 :: is) ls (a3 :: a2 :: a1 :: .ref a0 :: st) h = ((xis h a0 (.inr 1) ∧ (st.map fun v => v.category).sum ≤ 8) ∧ Call (pG L xs) pM d 12 [.ref a0, a1, a2, a3] h (fun v h' => Ev (pG L xs) pM d B rt Q is ls (v.toList ++ st) h')) := e_invokevirtual4 rfl
theorem k12_1 : b12 (Int.toNat (.ofNat 1)) = b12_1 := rfl
theorem k12_2 : b12 (Int.toNat (.ofNat 2)) = b12_2 := rfl
theorem k12_3 : b12 (Int.toNat (.ofNat 3)) = b12_3 := rfl
theorem k12_4 : b12 (Int.toNat (.ofNat 4)) = b12_4 := rfl
theorem k12_5 : b12 (Int.toNat (.ofNat 5)) = b12_5 := rfl
theorem k12_0 : b12 (Int.toNat (.ofNat 0)) = b12_0 := rfl
theorem m13 : Call (pG L xs) pM (d + 1) 13 as h Q = ((xent as).length ≤ 2 ∧ Ev (pG L xs) pM d b13 (none) Q b13_0 (xentry as 2) [] h) := rfl
theorem v13 {a0 : Nat} {a1 : Value} : Ev (pG L xs) pM d B rt Q (.invokevirtual 13 :: is) ls (a1 :: .ref a0 :: st) h = ((xis h a0 (.inr 1) ∧ (st.map fun v => v.category).sum ≤ 8) ∧ Call (pG L xs) pM d 13 [.ref a0, a1] h (fun v h' => Ev (pG L xs) pM d B rt Q is ls (v.toList ++ st) h')) := e_invokevirtual2 rfl
theorem k13_1 : b13 (Int.toNat (.ofNat 1)) = b13_1 := rfl
theorem k13_2 : b13 (Int.toNat (.ofNat 2)) = b13_2 := rfl
theorem k13_3 : b13 (Int.toNat (.ofNat 3)) = b13_3 := rfl
theorem k13_0 : b13 (Int.toNat (.ofNat 0)) = b13_0 := rfl
theorem m14 : Call (pG L xs) pM (d + 1) 14 as h Q = ((xent as).length ≤ 1 ∧ Ev (pG L xs) pM d b14 (none) Q b14_0 (xentry as 1) [] h) := rfl
theorem v14 {a0 : Nat}  : Ev (pG L xs) pM d B rt Q (.invokespecial 14 :: is) ls (.ref a0 :: st) h = (((st.map fun v => v.category).sum ≤ 8) ∧ Call (pG L xs) pM d 14 [.ref a0] h (fun v h' => Ev (pG L xs) pM d B rt Q is ls (v.toList ++ st) h')) := e_invokespecial1 rfl
theorem m15 : Call (pG L xs) pM (d + 1) 15 as h Q = ((xent as).length ≤ 5 ∧ Ev (pG L xs) pM d b15 (none) Q b15_0 (xentry as 5) [] h) := rfl
theorem v15 {a0 : Nat} {a1 a2 a3 : Value} : Ev (pG L xs) pM d B rt Q (.invokevirtual 15 :: is) ls (a3 :: a2 :: a1 :: .ref a0 :: st) h = ((xis h a0 (.inr 2) ∧ (st.map fun v => v.category).sum ≤ 8) ∧ Call (pG L xs) pM d 15 [.ref a0, a1, a2, a3] h (fun v h' => Ev (pG L xs) pM d B rt Q is ls (v.toList ++ st) h')) := e_invokevirtual4 rfl
theorem k15_1 : b15 (Int.toNat (.ofNat 1)) = b15_1 := rfl
theorem k15_2 : b15 (Int.toNat (.ofNat 2)) = b15_2 := rfl
theorem k15_3 : b15 (Int.toNat (.ofNat 3)) = b15_3 := rfl
theorem k15_4 : b15 (Int.toNat (.ofNat 4)) = b15_4 := rfl
theorem k15_0 : b15 (Int.toNat (.ofNat 0)) = b15_0 := rfl
theorem m16 : Call (pG L xs) pM (d + 1) 16 as h Q = ((xent as).length ≤ 5 ∧ Ev (pG L xs) pM d b16 (none) Q b16_0 (xentry as 5) [] h) := rfl
theorem v16 {a0 : Nat} {a1 a2 : Value} : Ev (pG L xs) pM d B rt Q (.invokevirtual 16 :: is) ls (a2 :: a1 :: .ref a0 :: st) h = ((xis h a0 (.inr 2) ∧ (st.map fun v => v.category).sum ≤ 8) ∧ Call (pG L xs) pM d 16 [.ref a0, a1, a2] h (fun v h' => Ev (pG L xs) pM d B rt Q is ls (v.toList ++ st) h')) := e_invokevirtual3 rfl
theorem k16_1 : b16 (Int.toNat (.ofNat 1)) = b16_1 := rfl
theorem k16_2 : b16 (Int.toNat (.ofNat 2)) = b16_2 := rfl
theorem k16_3 : b16 (Int.toNat (.ofNat 3)) = b16_3 := rfl
theorem k16_0 : b16 (Int.toNat (.ofNat 0)) = b16_0 := rfl
theorem m17 : Call (pG L xs) pM (d + 1) 17 as h Q = ((xent as).length ≤ 4 ∧ Ev (pG L xs) pM d b17 (some FieldType.boolean) Q b17_0 (xentry as 4) [] h) := rfl
theorem v17 {a0 a1 : Value} : Ev (pG L xs) pM d B rt Q (.invokestatic 17 :: is) ls (a1 :: a0 :: st) h = (((st.map fun v => v.category).sum ≤ 8) ∧ Call (pG L xs) pM d 17 [a0, a1] h (fun v h' => Ev (pG L xs) pM d B rt Q is ls (v.toList ++ st) h')) := e_invokestatic2 rfl
theorem k17_1 : b17 (Int.toNat (.ofNat 1)) = b17_1 := rfl
theorem k17_2 : b17 (Int.toNat (.ofNat 2)) = b17_2 := rfl
theorem k17_3 : b17 (Int.toNat (.ofNat 3)) = b17_3 := rfl
theorem k17_0 : b17 (Int.toNat (.ofNat 0)) = b17_0 := rfl
theorem m18 : Call (pG L xs) pM (d + 1) 18 as h Q = ((xent as).length ≤ 3 ∧ Ev (pG L xs) pM d b18 (some FieldType.int) Q b18_0 (xentry as 3) [] h) := rfl
theorem v18 {a0 : Nat}  : Ev (pG L xs) pM d B rt Q (.invokevirtual 18 :: is) ls (.ref a0 :: st) h = ((xis h a0 (.inr 2) ∧ (st.map fun v => v.category).sum ≤ 8) ∧ Call (pG L xs) pM d 18 [.ref a0] h (fun v h' => Ev (pG L xs) pM d B rt Q is ls (v.toList ++ st) h')) := e_invokevirtual1 rfl
theorem k18_1 : b18 (Int.toNat (.ofNat 1)) = b18_1 := rfl
theorem k18_2 : b18 (Int.toNat (.ofNat 2)) = b18_2 := rfl
theorem k18_3 : b18 (Int.toNat (.ofNat 3)) = b18_3 := rfl
theorem k18_4 : b18 (Int.toNat (.ofNat 4)) = b18_4 := rfl
theorem k18_0 : b18 (Int.toNat (.ofNat 0)) = b18_0 := rfl
theorem m19 : Call (pG L xs) pM (d + 1) 19 as h Q = ((xent as).length ≤ 2 ∧ Ev (pG L xs) pM d b19 (some FieldType.int) Q b19_0 (xentry as 2) [] h) := rfl
theorem v19 {a0 : Nat}  : Ev (pG L xs) pM d B rt Q (.invokevirtual 19 :: is) ls (.ref a0 :: st) h = ((xis h a0 (.inr 2) ∧ (st.map fun v => v.category).sum ≤ 8) ∧ Call (pG L xs) pM d 19 [.ref a0] h (fun v h' => Ev (pG L xs) pM d B rt Q is ls (v.toList ++ st) h')) := e_invokevirtual1 rfl
theorem k19_1 : b19 (Int.toNat (.ofNat 1)) = b19_1 := rfl
theorem k19_2 : b19 (Int.toNat (.ofNat 2)) = b19_2 := rfl
theorem k19_3 : b19 (Int.toNat (.ofNat 3)) = b19_3 := rfl
theorem k19_0 : b19 (Int.toNat (.ofNat 0)) = b19_0 := rfl
theorem m20 : Call (pG L xs) pM (d + 1) 20 as h Q = ((xent as).length ≤ 6 ∧ Ev (pG L xs) pM d b20 (some FieldType.int) Q b20_0 (xentry as 6) [] h) := rfl
theorem v20 {a0 : Nat} {a1 : Value} : Ev (pG L xs) pM d B rt Q (.invokevirtual 20 :: is) ls (a1 :: .ref a0 :: st) h = ((xis h a0 (.inr 2) ∧ (st.map fun v => v.category).sum ≤ 8) ∧ Call (pG L xs) pM d 20 [.ref a0, a1] h (fun v h' => Ev (pG L xs) pM d B rt Q is ls (v.toList ++ st) h')) := e_invokevirtual2 rfl
theorem k20_1 : b20 (Int.toNat (.ofNat 1)) = b20_1 := rfl
theorem k20_2 : b20 (Int.toNat (.ofNat 2)) = b20_2 := rfl
theorem k20_3 : b20 (Int.toNat (.ofNat 3)) = b20_3 := rfl
theorem k20_4 : b20 (Int.toNat (.ofNat 4)) = b20_4 := rfl
theorem k20_5 : b20 (Int.toNat (.ofNat 5)) = b20_5 := rfl
theorem k20_6 : b20 (Int.toNat (.ofNat 6)) = b20_6 := rfl
theorem k20_0 : b20 (Int.toNat (.ofNat 0)) = b20_0 := rfl
theorem m21 : Call (pG L xs) pM (d + 1) 21 as h Q = ((xent as).length ≤ 6 ∧ Ev (pG L xs) pM d b21 (some FieldType.int) Q b21_0 (xentry as 6) [] h) := rfl
theorem v21 {a0 : Nat} {a1 : Value} : Ev (pG L xs) pM d B rt Q (.invokevirtual 21 :: is) ls (a1 :: .ref a0 :: st) h = ((xis h a0 (.inr 2) ∧ (st.map fun v => v.category).sum ≤ 8) ∧ Call (pG L xs) pM d 21 [.ref a0, a1] h (fun v h' => Ev (pG L xs) pM d B rt Q is ls (v.toList ++ st) h')) := e_invokevirtual2 rfl
theorem k21_1 : b21 (Int.toNat (.ofNat 1)) = b21_1 := rfl
theorem k21_2 : b21 (Int.toNat (.ofNat 2)) = b21_2 := rfl
theorem k21_3 : b21 (Int.toNat (.ofNat 3)) = b21_3 := rfl
theorem k21_4 : b21 (Int.toNat (.ofNat 4)) = b21_4 := rfl
theorem k21_5 : b21 (Int.toNat (.ofNat 5)) = b21_5 := rfl
theorem k21_6 : b21 (Int.toNat (.ofNat 6)) = b21_6 := rfl
theorem k21_0 : b21 (Int.toNat (.ofNat 0)) = b21_0 := rfl
theorem m22 : Call (pG L xs) pM (d + 1) 22 as h Q = ((xent as).length ≤ 2 ∧ Ev (pG L xs) pM d b22 (none) Q b22_0 (xentry as 2) [] h) := rfl
theorem v22 {a0 : Nat}  : Ev (pG L xs) pM d B rt Q (.invokespecial 22 :: is) ls (.ref a0 :: st) h = (((st.map fun v => v.category).sum ≤ 8) ∧ Call (pG L xs) pM d 22 [.ref a0] h (fun v h' => Ev (pG L xs) pM d B rt Q is ls (v.toList ++ st) h')) := e_invokespecial1 rfl
theorem k22_1 : b22 (Int.toNat (.ofNat 1)) = b22_1 := rfl
theorem k22_2 : b22 (Int.toNat (.ofNat 2)) = b22_2 := rfl
theorem k22_0 : b22 (Int.toNat (.ofNat 0)) = b22_0 := rfl
theorem m23 : Call (pG L xs) pM (d + 1) 23 as h Q = ((xent as).length ≤ 1 ∧ Ev (pG L xs) pM d b23 (none) Q b23_0 (xentry as 1) [] h) := rfl
theorem v23 {a0 : Nat}  : Ev (pG L xs) pM d B rt Q (.invokevirtual 23 :: is) ls (.ref a0 :: st) h = ((xis h a0 (.inr 3) ∧ (st.map fun v => v.category).sum ≤ 8) ∧ Call (pG L xs) pM d 23 [.ref a0] h (fun v h' => Ev (pG L xs) pM d B rt Q is ls (v.toList ++ st) h')) := e_invokevirtual1 rfl
theorem k23_0 : b23 (Int.toNat (.ofNat 0)) = b23_0 := rfl
theorem m24 : Call (pG L xs) pM (d + 1) 24 as h Q = ((xent as).length ≤ 2 ∧ Ev (pG L xs) pM d b24 (none) Q b24_0 (xentry as 2) [] h) := rfl
theorem v24 {a0 : Nat} {a1 : Value} : Ev (pG L xs) pM d B rt Q (.invokevirtual 24 :: is) ls (a1 :: .ref a0 :: st) h = ((xis h a0 (.inr 3) ∧ (st.map fun v => v.category).sum ≤ 8) ∧ Call (pG L xs) pM d 24 [.ref a0, a1] h (fun v h' => Ev (pG L xs) pM d B rt Q is ls (v.toList ++ st) h')) := e_invokevirtual2 rfl
theorem k24_1 : b24 (Int.toNat (.ofNat 1)) = b24_1 := rfl
theorem k24_2 : b24 (Int.toNat (.ofNat 2)) = b24_2 := rfl
theorem k24_0 : b24 (Int.toNat (.ofNat 0)) = b24_0 := rfl
theorem m25 : Call (pG L xs) pM (d + 1) 25 as h Q = ((xent as).length ≤ 2 ∧ Ev (pG L xs) pM d b25 (none) Q b25_0 (xentry as 2) [] h) := rfl
theorem v25 {a0 : Nat} {a1 : Value} : Ev (pG L xs) pM d B rt Q (.invokevirtual 25 :: is) ls (a1 :: .ref a0 :: st) h = ((xis h a0 (.inr 3) ∧ (st.map fun v => v.category).sum ≤ 8) ∧ Call (pG L xs) pM d 25 [.ref a0, a1] h (fun v h' => Ev (pG L xs) pM d B rt Q is ls (v.toList ++ st) h')) := e_invokevirtual2 rfl
theorem k25_1 : b25 (Int.toNat (.ofNat 1)) = b25_1 := rfl
theorem k25_2 : b25 (Int.toNat (.ofNat 2)) = b25_2 := rfl
theorem k25_3 : b25 (Int.toNat (.ofNat 3)) = b25_3 := rfl
theorem m26 : Call (pG L xs) pM (d + 1) 26 as h Q = ((xent as).length ≤ 1 ∧ Ev (pG L xs) pM d b26 (none) Q b26_0 (xentry as 1) [] h) := rfl
theorem v26 {a0 : Nat}  : Ev (pG L xs) pM d B rt Q (.invokespecial 26 :: is) ls (.ref a0 :: st) h = (((st.map fun v => v.category).sum ≤ 8) ∧ Call (pG L xs) pM d 26 [.ref a0] h (fun v h' => Ev (pG L xs) pM d B rt Q is ls (v.toList ++ st) h')) := e_invokespecial1 rfl
theorem m27 : Call (pG L xs) pM (d + 1) 27 as h Q = ((xent as).length ≤ 2 ∧ Ev (pG L xs) pM d b27 (none) Q b27_0 (xentry as 2) [] h) := rfl
theorem v27 {a0 : Nat} {a1 : Value} : Ev (pG L xs) pM d B rt Q (.invokevirtual 27 :: is) ls (a1 :: .ref a0 :: st) h = ((xis h a0 (.inr 4) ∧ (st.map fun v => v.category).sum ≤ 8) ∧ Call (pG L xs) pM d 27 [.ref a0, a1] h (fun v h' => Ev (pG L xs) pM d B rt Q is ls (v.toList ++ st) h')) := e_invokevirtual2 rfl
theorem k27_0 : b27 (Int.toNat (.ofNat 0)) = b27_0 := rfl
theorem m28 : Call (pG L xs) pM (d + 1) 28 as h Q = ((xent as).length ≤ 7 ∧ Ev (pG L xs) pM d b28 (none) Q b28_0 (xentry as 7) [] h) := rfl
theorem v28 {a0 : Nat} {a1 a2 a3 a4 a5 : Value} : Ev (pG L xs) pM d B rt Q (.invokevirtual 28 :: is) ls (a5 :: a4 :: a3 :: a2 :: a1 :: .ref a0 :: st) h = ((xis h a0 (.inr 4) ∧ (st.map fun v => v.category).sum ≤ 8) ∧ Call (pG L xs) pM d 28 [.ref a0, a1, a2, a3, a4, a5] h (fun v h' => Ev (pG L xs) pM d B rt Q is ls (v.toList ++ st) h')) := e_invokevirtual6 rfl
theorem k28_1 : b28 (Int.toNat (.ofNat 1)) = b28_1 := rfl
theorem k28_2 : b28 (Int.toNat (.ofNat 2)) = b28_2 := rfl
theorem k28_3 : b28 (Int.toNat (.ofNat 3)) = b28_3 := rfl
theorem k28_4 : b28 (Int.toNat (.ofNat 4)) = b28_4 := rfl
theorem k28_5 : b28 (Int.toNat (.ofNat 5)) = b28_5 := rfl
theorem k28_6 : b28 (Int.toNat (.ofNat 6)) = b28_6 := rfl
theorem m29 : Call (pG L xs) pM (d + 1) 29 as h Q = ((xent as).length ≤ 3 ∧ Ev (pG L xs) pM d b29 (none) Q b29_0 (xentry as 3) [] h) := rfl
theorem v29 {a0 : Nat} {a1 a2 : Value} : Ev (pG L xs) pM d B rt Q (.invokevirtual 29 :: is) ls (a2 :: a1 :: .ref a0 :: st) h = ((xis h a0 (.inr 4) ∧ (st.map fun v => v.category).sum ≤ 8) ∧ Call (pG L xs) pM d 29 [.ref a0, a1, a2] h (fun v h' => Ev (pG L xs) pM d B rt Q is ls (v.toList ++ st) h')) := e_invokevirtual3 rfl
theorem k29_1 : b29 (Int.toNat (.ofNat 1)) = b29_1 := rfl
theorem k29_2 : b29 (Int.toNat (.ofNat 2)) = b29_2 := rfl
theorem k29_0 : b29 (Int.toNat (.ofNat 0)) = b29_0 := rfl
theorem m30 : Call (pG L xs) pM (d + 1) 30 as h Q = ((xent as).length ≤ 4 ∧ Ev (pG L xs) pM d b30 (some FieldType.int) Q b30_0 (xentry as 4) [] h) := rfl
theorem v30 {a0 : Nat} {a1 a2 : Value} : Ev (pG L xs) pM d B rt Q (.invokevirtual 30 :: is) ls (a2 :: a1 :: .ref a0 :: st) h = ((xis h a0 (.inr 4) ∧ (st.map fun v => v.category).sum ≤ 8) ∧ Call (pG L xs) pM d 30 [.ref a0, a1, a2] h (fun v h' => Ev (pG L xs) pM d B rt Q is ls (v.toList ++ st) h')) := e_invokevirtual3 rfl
theorem k30_1 : b30 (Int.toNat (.ofNat 1)) = b30_1 := rfl
theorem k30_2 : b30 (Int.toNat (.ofNat 2)) = b30_2 := rfl
theorem k30_3 : b30 (Int.toNat (.ofNat 3)) = b30_3 := rfl
theorem k30_4 : b30 (Int.toNat (.ofNat 4)) = b30_4 := rfl
theorem m31 : Call (pG L xs) pM (d + 1) 31 as h Q = ((xent as).length ≤ 4 ∧ Ev (pG L xs) pM d b31 (some FieldType.int) Q b31_0 (xentry as 4) [] h) := rfl
theorem v31 {a0 : Nat} {a1 a2 : Value} : Ev (pG L xs) pM d B rt Q (.invokevirtual 31 :: is) ls (a2 :: a1 :: .ref a0 :: st) h = ((xis h a0 (.inr 4) ∧ (st.map fun v => v.category).sum ≤ 8) ∧ Call (pG L xs) pM d 31 [.ref a0, a1, a2] h (fun v h' => Ev (pG L xs) pM d B rt Q is ls (v.toList ++ st) h')) := e_invokevirtual3 rfl
theorem k31_1 : b31 (Int.toNat (.ofNat 1)) = b31_1 := rfl
theorem k31_2 : b31 (Int.toNat (.ofNat 2)) = b31_2 := rfl
theorem k31_3 : b31 (Int.toNat (.ofNat 3)) = b31_3 := rfl
theorem k31_4 : b31 (Int.toNat (.ofNat 4)) = b31_4 := rfl
theorem k31_5 : b31 (Int.toNat (.ofNat 5)) = b31_5 := rfl
theorem k31_0 : b31 (Int.toNat (.ofNat 0)) = b31_0 := rfl
theorem m32 : Call (pG L xs) pM (d + 1) 32 as h Q = ((xent as).length ≤ 4 ∧ Ev (pG L xs) pM d b32 (none) Q b32_0 (xentry as 4) [] h) := rfl
theorem v32 {a0 : Nat} {a1 : Value} : Ev (pG L xs) pM d B rt Q (.invokevirtual 32 :: is) ls (a1 :: .ref a0 :: st) h = ((xis h a0 (.inr 4) ∧ (st.map fun v => v.category).sum ≤ 8) ∧ Call (pG L xs) pM d 32 [.ref a0, a1] h (fun v h' => Ev (pG L xs) pM d B rt Q is ls (v.toList ++ st) h')) := e_invokevirtual2 rfl
theorem k32_1 : b32 (Int.toNat (.ofNat 1)) = b32_1 := rfl
theorem k32_2 : b32 (Int.toNat (.ofNat 2)) = b32_2 := rfl
theorem k32_3 : b32 (Int.toNat (.ofNat 3)) = b32_3 := rfl
theorem k32_4 : b32 (Int.toNat (.ofNat 4)) = b32_4 := rfl
theorem k32_5 : b32 (Int.toNat (.ofNat 5)) = b32_5 := rfl
theorem k32_6 : b32 (Int.toNat (.ofNat 6)) = b32_6 := rfl
theorem k32_7 : b32 (Int.toNat (.ofNat 7)) = b32_7 := rfl
theorem k32_8 : b32 (Int.toNat (.ofNat 8)) = b32_8 := rfl
theorem k32_0 : b32 (Int.toNat (.ofNat 0)) = b32_0 := rfl
theorem m33 : Call (pG L xs) pM (d + 1) 33 as h Q = ((xent as).length ≤ 3 ∧ Ev (pG L xs) pM d b33 (none) Q b33_0 (xentry as 3) [] h) := rfl
theorem v33 {a0 : Nat} {a1 a2 : Value} : Ev (pG L xs) pM d B rt Q (.invokevirtual 33 :: is) ls (a2 :: a1 :: .ref a0 :: st) h = ((xis h a0 (.inr 4) ∧ (st.map fun v => v.category).sum ≤ 8) ∧ Call (pG L xs) pM d 33 [.ref a0, a1, a2] h (fun v h' => Ev (pG L xs) pM d B rt Q is ls (v.toList ++ st) h')) := e_invokevirtual3 rfl
theorem k33_1 : b33 (Int.toNat (.ofNat 1)) = b33_1 := rfl
theorem m34 : Call (pG L xs) pM (d + 1) 34 as h Q = ((xent as).length ≤ 2 ∧ Ev (pG L xs) pM d b34 (some FieldType.int) Q b34_0 (xentry as 2) [] h) := rfl
theorem v34 {a0 : Nat} {a1 : Value} : Ev (pG L xs) pM d B rt Q (.invokevirtual 34 :: is) ls (a1 :: .ref a0 :: st) h = ((xis h a0 (.inr 4) ∧ (st.map fun v => v.category).sum ≤ 8) ∧ Call (pG L xs) pM d 34 [.ref a0, a1] h (fun v h' => Ev (pG L xs) pM d B rt Q is ls (v.toList ++ st) h')) := e_invokevirtual2 rfl
theorem m35 : Call (pG L xs) pM (d + 1) 35 as h Q = ((xent as).length ≤ 4 ∧ Ev (pG L xs) pM d b35 (some FieldType.boolean) Q b35_0 (xentry as 4) [] h) := rfl
theorem v35 {a0 : Nat} {a1 a2 : Value} : Ev (pG L xs) pM d B rt Q (.invokevirtual 35 :: is) ls (a2 :: a1 :: .ref a0 :: st) h = ((xis h a0 (.inr 4) ∧ (st.map fun v => v.category).sum ≤ 8) ∧ Call (pG L xs) pM d 35 [.ref a0, a1, a2] h (fun v h' => Ev (pG L xs) pM d B rt Q is ls (v.toList ++ st) h')) := e_invokevirtual3 rfl
theorem k35_1 : b35 (Int.toNat (.ofNat 1)) = b35_1 := rfl
theorem k35_2 : b35 (Int.toNat (.ofNat 2)) = b35_2 := rfl
theorem k35_3 : b35 (Int.toNat (.ofNat 3)) = b35_3 := rfl
theorem k35_0 : b35 (Int.toNat (.ofNat 0)) = b35_0 := rfl
theorem m36 : Call (pG L xs) pM (d + 1) 36 as h Q = ((xent as).length ≤ 7 ∧ Ev (pG L xs) pM d b36 (none) Q b36_0 (xentry as 7) [] h) := rfl
theorem v36 {a0 : Nat} {a1 : Value} : Ev (pG L xs) pM d B rt Q (.invokevirtual 36 :: is) ls (a1 :: .ref a0 :: st) h = ((xis h a0 (.inr 4) ∧ (st.map fun v => v.category).sum ≤ 8) ∧ Call (pG L xs) pM d 36 [.ref a0, a1] h (fun v h' => Ev (pG L xs) pM d B rt Q is ls (v.toList ++ st) h')) := e_invokevirtual2 rfl
theorem k36_1 : b36 (Int.toNat (.ofNat 1)) = b36_1 := rfl
theorem k36_2 : b36 (Int.toNat (.ofNat 2)) = b36_2 := rfl
theorem k36_3 : b36 (Int.toNat (.ofNat 3)) = b36_3 := rfl
theorem k36_4 : b36 (Int.toNat (.ofNat 4)) = b36_4 := rfl
theorem k36_5 : b36 (Int.toNat (.ofNat 5)) = b36_5 := rfl
theorem k36_0 : b36 (Int.toNat (.ofNat 0)) = b36_0 := rfl
theorem m37 : Call (pG L xs) pM (d + 1) 37 as h Q = ((xent as).length ≤ 5 ∧ Ev (pG L xs) pM d b37 (some FieldType.int) Q b37_0 (xentry as 5) [] h) := rfl
theorem v37 {a0 : Nat} {a1 : Value} : Ev (pG L xs) pM d B rt Q (.invokevirtual 37 :: is) ls (a1 :: .ref a0 :: st) h = ((xis h a0 (.inr 4) ∧ (st.map fun v => v.category).sum ≤ 8) ∧ Call (pG L xs) pM d 37 [.ref a0, a1] h (fun v h' => Ev (pG L xs) pM d B rt Q is ls (v.toList ++ st) h')) := e_invokevirtual2 rfl
theorem k37_1 : b37 (Int.toNat (.ofNat 1)) = b37_1 := rfl
theorem k37_2 : b37 (Int.toNat (.ofNat 2)) = b37_2 := rfl
theorem k37_3 : b37 (Int.toNat (.ofNat 3)) = b37_3 := rfl
theorem k37_4 : b37 (Int.toNat (.ofNat 4)) = b37_4 := rfl
theorem k37_5 : b37 (Int.toNat (.ofNat 5)) = b37_5 := rfl
theorem k37_0 : b37 (Int.toNat (.ofNat 0)) = b37_0 := rfl
theorem m38 : Call (pG L xs) pM (d + 1) 38 as h Q = ((xent as).length ≤ 7 ∧ Ev (pG L xs) pM d b38 (some FieldType.int) Q b38_0 (xentry as 7) [] h) := rfl
theorem v38 {a0 a1 a2 a3 a4 : Value} : Ev (pG L xs) pM d B rt Q (.invokestatic 38 :: is) ls (a4 :: a3 :: a2 :: a1 :: a0 :: st) h = (((st.map fun v => v.category).sum ≤ 8) ∧ Call (pG L xs) pM d 38 [a0, a1, a2, a3, a4] h (fun v h' => Ev (pG L xs) pM d B rt Q is ls (v.toList ++ st) h')) := e_invokestatic5 rfl
theorem k38_1 : b38 (Int.toNat (.ofNat 1)) = b38_1 := rfl
theorem k38_2 : b38 (Int.toNat (.ofNat 2)) = b38_2 := rfl
theorem k38_3 : b38 (Int.toNat (.ofNat 3)) = b38_3 := rfl
theorem k38_4 : b38 (Int.toNat (.ofNat 4)) = b38_4 := rfl
theorem k38_5 : b38 (Int.toNat (.ofNat 5)) = b38_5 := rfl
theorem k38_6 : b38 (Int.toNat (.ofNat 6)) = b38_6 := rfl
theorem k38_0 : b38 (Int.toNat (.ofNat 0)) = b38_0 := rfl
theorem m39 : Call (pG L xs) pM (d + 1) 39 as h Q = ((xent as).length ≤ 3 ∧ Ev (pG L xs) pM d b39 (some FieldType.boolean) Q b39_0 (xentry as 3) [] h) := rfl
theorem v39 {a0 a1 a2 : Value} : Ev (pG L xs) pM d B rt Q (.invokestatic 39 :: is) ls (a2 :: a1 :: a0 :: st) h = (((st.map fun v => v.category).sum ≤ 8) ∧ Call (pG L xs) pM d 39 [a0, a1, a2] h (fun v h' => Ev (pG L xs) pM d B rt Q is ls (v.toList ++ st) h')) := e_invokestatic3 rfl
theorem k39_1 : b39 (Int.toNat (.ofNat 1)) = b39_1 := rfl
theorem k39_2 : b39 (Int.toNat (.ofNat 2)) = b39_2 := rfl
theorem k39_0 : b39 (Int.toNat (.ofNat 0)) = b39_0 := rfl
theorem m40 : Call (pG L xs) pM (d + 1) 40 as h Q = ((xent as).length ≤ 6 ∧ Ev (pG L xs) pM d b40 (some FieldType.int) Q b40_0 (xentry as 6) [] h) := rfl
theorem v40 {a0 : Nat} {a1 : Value} : Ev (pG L xs) pM d B rt Q (.invokevirtual 40 :: is) ls (a1 :: .ref a0 :: st) h = ((xis h a0 (.inr 4) ∧ (st.map fun v => v.category).sum ≤ 8) ∧ Call (pG L xs) pM d 40 [.ref a0, a1] h (fun v h' => Ev (pG L xs) pM d B rt Q is ls (v.toList ++ st) h')) := e_invokevirtual2 rfl
theorem k40_1 : b40 (Int.toNat (.ofNat 1)) = b40_1 := rfl
theorem k40_2 : b40 (Int.toNat (.ofNat 2)) = b40_2 := rfl
theorem k40_3 : b40 (Int.toNat (.ofNat 3)) = b40_3 := rfl
theorem k40_4 : b40 (Int.toNat (.ofNat 4)) = b40_4 := rfl
theorem k40_5 : b40 (Int.toNat (.ofNat 5)) = b40_5 := rfl
theorem k40_6 : b40 (Int.toNat (.ofNat 6)) = b40_6 := rfl
theorem k40_7 : b40 (Int.toNat (.ofNat 7)) = b40_7 := rfl
theorem k40_8 : b40 (Int.toNat (.ofNat 8)) = b40_8 := rfl
theorem k40_9 : b40 (Int.toNat (.ofNat 9)) = b40_9 := rfl
theorem k40_0 : b40 (Int.toNat (.ofNat 0)) = b40_0 := rfl
theorem m41 : Call (pG L xs) pM (d + 1) 41 as h Q = ((xent as).length ≤ 4 ∧ Ev (pG L xs) pM d b41 (none) Q b41_0 (xentry as 4) [] h) := rfl
theorem v41 {a0 : Nat} {a1 : Value} : Ev (pG L xs) pM d B rt Q (.invokespecial 41 :: is) ls (a1 :: .ref a0 :: st) h = (((st.map fun v => v.category).sum ≤ 8) ∧ Call (pG L xs) pM d 41 [.ref a0, a1] h (fun v h' => Ev (pG L xs) pM d B rt Q is ls (v.toList ++ st) h')) := e_invokespecial2 rfl
theorem k41_1 : b41 (Int.toNat (.ofNat 1)) = b41_1 := rfl
theorem k41_2 : b41 (Int.toNat (.ofNat 2)) = b41_2 := rfl
theorem k41_3 : b41 (Int.toNat (.ofNat 3)) = b41_3 := rfl
theorem k41_4 : b41 (Int.toNat (.ofNat 4)) = b41_4 := rfl
theorem k41_5 : b41 (Int.toNat (.ofNat 5)) = b41_5 := rfl
theorem k41_0 : b41 (Int.toNat (.ofNat 0)) = b41_0 := rfl
theorem m42 : Call (pG L xs) pM (d + 1) 42 as h Q = ((xent as).length ≤ 1 ∧ Ev (pG L xs) pM d b42 (some FieldType.int) Q b42_0 (xentry as 1) [] h) := rfl
theorem v42 {a0 : Value} : Ev (pG L xs) pM d B rt Q (.invokestatic 42 :: is) ls (a0 :: st) h = (((st.map fun v => v.category).sum ≤ 8) ∧ Call (pG L xs) pM d 42 [a0] h (fun v h' => Ev (pG L xs) pM d B rt Q is ls (v.toList ++ st) h')) := e_invokestatic1 rfl
theorem k42_1 : b42 (Int.toNat (.ofNat 1)) = b42_1 := rfl
theorem k42_2 : b42 (Int.toNat (.ofNat 2)) = b42_2 := rfl
theorem k42_3 : b42 (Int.toNat (.ofNat 3)) = b42_3 := rfl
theorem k42_4 : b42 (Int.toNat (.ofNat 4)) = b42_4 := rfl
theorem k42_5 : b42 (Int.toNat (.ofNat 5)) = b42_5 := rfl
theorem k42_6 : b42 (Int.toNat (.ofNat 6)) = b42_6 := rfl
theorem k42_7 : b42 (Int.toNat (.ofNat 7)) = b42_7 := rfl
theorem k42_0 : b42 (Int.toNat (.ofNat 0)) = b42_0 := rfl
theorem m43 : Call (pG L xs) pM (d + 1) 43 as h Q = ((xent as).length ≤ 5 ∧ Ev (pG L xs) pM d b43 (some FieldType.long) Q b43_0 (xentry as 5) [] h) := rfl
theorem v43 {a0 : Nat} {a1 : Value} : Ev (pG L xs) pM d B rt Q (.invokevirtual 43 :: is) ls (a1 :: .ref a0 :: st) h = ((xis h a0 (.inr 5) ∧ (st.map fun v => v.category).sum ≤ 8) ∧ Call (pG L xs) pM d 43 [.ref a0, a1] h (fun v h' => Ev (pG L xs) pM d B rt Q is ls (v.toList ++ st) h')) := e_invokevirtual2 rfl
theorem k43_1 : b43 (Int.toNat (.ofNat 1)) = b43_1 := rfl
theorem k43_2 : b43 (Int.toNat (.ofNat 2)) = b43_2 := rfl
theorem k43_3 : b43 (Int.toNat (.ofNat 3)) = b43_3 := rfl
theorem k43_4 : b43 (Int.toNat (.ofNat 4)) = b43_4 := rfl
theorem k43_5 : b43 (Int.toNat (.ofNat 5)) = b43_5 := rfl
theorem k43_6 : b43 (Int.toNat (.ofNat 6)) = b43_6 := rfl
theorem k43_7 : b43 (Int.toNat (.ofNat 7)) = b43_7 := rfl
theorem k43_8 : b43 (Int.toNat (.ofNat 8)) = b43_8 := rfl
theorem k43_9 : b43 (Int.toNat (.ofNat 9)) = b43_9 := rfl
theorem k43_10 : b43 (Int.toNat (.ofNat 10)) = b43_10 := rfl
theorem k43_11 : b43 (Int.toNat (.ofNat 11)) = b43_11 := rfl
theorem k43_12 : b43 (Int.toNat (.ofNat 12)) = b43_12 := rfl
theorem k43_0 : b43 (Int.toNat (.ofNat 0)) = b43_0 := rfl
theorem m44 : Call (pG L xs) pM (d + 1) 44 as h Q = ((xent as).length ≤ 5 ∧ Ev (pG L xs) pM d b44 (some FieldType.long) Q b44_0 (xentry as 5) [] h) := rfl
theorem v44 {a0 a1 a2 : Value} : Ev (pG L xs) pM d B rt Q (.invokestatic 44 :: is) ls (a2 :: a1 :: a0 :: st) h = (((st.map fun v => v.category).sum ≤ 8) ∧ Call (pG L xs) pM d 44 [a0, a1, a2] h (fun v h' => Ev (pG L xs) pM d B rt Q is ls (v.toList ++ st) h')) := e_invokestatic3 rfl
theorem k44_1 : b44 (Int.toNat (.ofNat 1)) = b44_1 := rfl
theorem k44_2 : b44 (Int.toNat (.ofNat 2)) = b44_2 := rfl
theorem k44_3 : b44 (Int.toNat (.ofNat 3)) = b44_3 := rfl
theorem k44_4 : b44 (Int.toNat (.ofNat 4)) = b44_4 := rfl
theorem k44_5 : b44 (Int.toNat (.ofNat 5)) = b44_5 := rfl
theorem k44_6 : b44 (Int.toNat (.ofNat 6)) = b44_6 := rfl
theorem k44_7 : b44 (Int.toNat (.ofNat 7)) = b44_7 := rfl
theorem k44_8 : b44 (Int.toNat (.ofNat 8)) = b44_8 := rfl
theorem k44_9 : b44 (Int.toNat (.ofNat 9)) = b44_9 := rfl
theorem k44_10 : b44 (Int.toNat (.ofNat 10)) = b44_10 := rfl
theorem k44_11 : b44 (Int.toNat (.ofNat 11)) = b44_11 := rfl
theorem k44_12 : b44 (Int.toNat (.ofNat 12)) = b44_12 := rfl
theorem k44_13 : b44 (Int.toNat (.ofNat 13)) = b44_13 := rfl
theorem k44_14 : b44 (Int.toNat (.ofNat 14)) = b44_14 := rfl
theorem k44_15 : b44 (Int.toNat (.ofNat 15)) = b44_15 := rfl
theorem k44_16 : b44 (Int.toNat (.ofNat 16)) = b44_16 := rfl
theorem k44_17 : b44 (Int.toNat (.ofNat 17)) = b44_17 := rfl
theorem k44_18 : b44 (Int.toNat (.ofNat 18)) = b44_18 := rfl
theorem k44_19 : b44 (Int.toNat (.ofNat 19)) = b44_19 := rfl
theorem k44_20 : b44 (Int.toNat (.ofNat 20)) = b44_20 := rfl
theorem k44_21 : b44 (Int.toNat (.ofNat 21)) = b44_21 := rfl
theorem k44_22 : b44 (Int.toNat (.ofNat 22)) = b44_22 := rfl
theorem k44_23 : b44 (Int.toNat (.ofNat 23)) = b44_23 := rfl
theorem k44_24 : b44 (Int.toNat (.ofNat 24)) = b44_24 := rfl
theorem k44_25 : b44 (Int.toNat (.ofNat 25)) = b44_25 := rfl
theorem k44_26 : b44 (Int.toNat (.ofNat 26)) = b44_26 := rfl
theorem k44_0 : b44 (Int.toNat (.ofNat 0)) = b44_0 := rfl
theorem m45 : Call (pG L xs) pM (d + 1) 45 as h Q = ((xent as).length ≤ 1 ∧ Ev (pG L xs) pM d b45 (none) Q b45_0 (xentry as 1) [] h) := rfl
theorem v45 {a0 : Nat}  : Ev (pG L xs) pM d B rt Q (.invokespecial 45 :: is) ls (.ref a0 :: st) h = (((st.map fun v => v.category).sum ≤ 8) ∧ Call (pG L xs) pM d 45 [.ref a0] h (fun v h' => Ev (pG L xs) pM d B rt Q is ls (v.toList ++ st) h')) := e_invokespecial1 rfl
theorem m46 : Call (pG L xs) pM (d + 1) 46 as h Q = ((xent as).length ≤ 3 ∧ Ev (pG L xs) pM d b46 (some FieldType.int) Q b46_0 (xentry as 3) [] h) := rfl
theorem v46 {a0 : Nat} {a1 : Value} : Ev (pG L xs) pM d B rt Q (.invokevirtual 46 :: is) ls (a1 :: .ref a0 :: st) h = ((xis h a0 (.inr 6) ∧ (st.map fun v => v.category).sum ≤ 8) ∧ Call (pG L xs) pM d 46 [.ref a0, a1] h (fun v h' => Ev (pG L xs) pM d B rt Q is ls (v.toList ++ st) h')) := e_invokevirtual2 rfl
theorem k46_1 : b46 (Int.toNat (.ofNat 1)) = b46_1 := rfl
theorem k46_2 : b46 (Int.toNat (.ofNat 2)) = b46_2 := rfl
theorem k46_0 : b46 (Int.toNat (.ofNat 0)) = b46_0 := rfl
theorem m47 : Call (pG L xs) pM (d + 1) 47 as h Q = ((xent as).length ≤ 1 ∧ Ev (pG L xs) pM d b47 (some (FieldType.object "RankFord$Rule")) Q b47_0 (xentry as 1) [] h) := rfl
theorem v47 {a0 : Nat}  : Ev (pG L xs) pM d B rt Q (.invokevirtual 47 :: is) ls (.ref a0 :: st) h = ((xis h a0 (.inr 6) ∧ (st.map fun v => v.category).sum ≤ 8) ∧ Call (pG L xs) pM d 47 [.ref a0] h (fun v h' => Ev (pG L xs) pM d B rt Q is ls (v.toList ++ st) h')) := e_invokevirtual1 rfl
theorem m48 : Call (pG L xs) pM (d + 1) 48 as h Q = ((xent as).length ≤ 2 ∧ Ev (pG L xs) pM d b48 (none) Q b48_0 (xentry as 2) [] h) := rfl
theorem v48 {a0 : Nat} {a1 : Value} : Ev (pG L xs) pM d B rt Q (.invokevirtual 48 :: is) ls (a1 :: .ref a0 :: st) h = ((xis h a0 (.inr 6) ∧ (st.map fun v => v.category).sum ≤ 8) ∧ Call (pG L xs) pM d 48 [.ref a0, a1] h (fun v h' => Ev (pG L xs) pM d B rt Q is ls (v.toList ++ st) h')) := e_invokevirtual2 rfl
theorem k48_1 : b48 (Int.toNat (.ofNat 1)) = b48_1 := rfl
theorem k48_2 : b48 (Int.toNat (.ofNat 2)) = b48_2 := rfl
theorem k48_3 : b48 (Int.toNat (.ofNat 3)) = b48_3 := rfl
theorem k48_4 : b48 (Int.toNat (.ofNat 4)) = b48_4 := rfl
theorem k48_5 : b48 (Int.toNat (.ofNat 5)) = b48_5 := rfl
theorem k48_6 : b48 (Int.toNat (.ofNat 6)) = b48_6 := rfl
theorem m49 : Call (pG L xs) pM (d + 1) 49 as h Q = ((xent as).length ≤ 2 ∧ Ev (pG L xs) pM d b49 (none) Q b49_0 (xentry as 2) [] h) := rfl
theorem v49 {a0 : Nat} {a1 : Value} : Ev (pG L xs) pM d B rt Q (.invokevirtual 49 :: is) ls (a1 :: .ref a0 :: st) h = ((xis h a0 (.inr 6) ∧ (st.map fun v => v.category).sum ≤ 8) ∧ Call (pG L xs) pM d 49 [.ref a0, a1] h (fun v h' => Ev (pG L xs) pM d B rt Q is ls (v.toList ++ st) h')) := e_invokevirtual2 rfl
theorem k49_1 : b49 (Int.toNat (.ofNat 1)) = b49_1 := rfl
theorem k49_2 : b49 (Int.toNat (.ofNat 2)) = b49_2 := rfl
theorem k49_3 : b49 (Int.toNat (.ofNat 3)) = b49_3 := rfl
theorem k49_0 : b49 (Int.toNat (.ofNat 0)) = b49_0 := rfl
theorem m50 : Call (pG L xs) pM (d + 1) 50 as h Q = ((xent as).length ≤ 3 ∧ Ev (pG L xs) pM d b50 (none) Q b50_0 (xentry as 3) [] h) := rfl
theorem v50 {a0 : Nat} {a1 : Value} : Ev (pG L xs) pM d B rt Q (.invokevirtual 50 :: is) ls (a1 :: .ref a0 :: st) h = ((xis h a0 (.inr 6) ∧ (st.map fun v => v.category).sum ≤ 8) ∧ Call (pG L xs) pM d 50 [.ref a0, a1] h (fun v h' => Ev (pG L xs) pM d B rt Q is ls (v.toList ++ st) h')) := e_invokevirtual2 rfl
theorem k50_1 : b50 (Int.toNat (.ofNat 1)) = b50_1 := rfl
theorem k50_2 : b50 (Int.toNat (.ofNat 2)) = b50_2 := rfl
theorem k50_3 : b50 (Int.toNat (.ofNat 3)) = b50_3 := rfl
theorem k50_4 : b50 (Int.toNat (.ofNat 4)) = b50_4 := rfl
theorem k50_5 : b50 (Int.toNat (.ofNat 5)) = b50_5 := rfl
theorem k50_6 : b50 (Int.toNat (.ofNat 6)) = b50_6 := rfl
theorem k50_0 : b50 (Int.toNat (.ofNat 0)) = b50_0 := rfl
theorem m51 : Call (pG L xs) pM (d + 1) 51 as h Q = ((xent as).length ≤ 2 ∧ Ev (pG L xs) pM d b51 (none) Q b51_0 (xentry as 2) [] h) := rfl
theorem v51 {a0 : Nat} {a1 : Value} : Ev (pG L xs) pM d B rt Q (.invokevirtual 51 :: is) ls (a1 :: .ref a0 :: st) h = ((xis h a0 (.inr 6) ∧ (st.map fun v => v.category).sum ≤ 8) ∧ Call (pG L xs) pM d 51 [.ref a0, a1] h (fun v h' => Ev (pG L xs) pM d B rt Q is ls (v.toList ++ st) h')) := e_invokevirtual2 rfl
theorem k51_1 : b51 (Int.toNat (.ofNat 1)) = b51_1 := rfl
theorem k51_2 : b51 (Int.toNat (.ofNat 2)) = b51_2 := rfl
theorem k51_3 : b51 (Int.toNat (.ofNat 3)) = b51_3 := rfl
theorem m52 : Call (pG L xs) pM (d + 1) 52 as h Q = ((xent as).length ≤ 3 ∧ Ev (pG L xs) pM d b52 (none) Q b52_0 (xentry as 3) [] h) := rfl
theorem v52 {a0 : Nat} {a1 a2 : Value} : Ev (pG L xs) pM d B rt Q (.invokevirtual 52 :: is) ls (a2 :: a1 :: .ref a0 :: st) h = ((xis h a0 (.inr 6) ∧ (st.map fun v => v.category).sum ≤ 8) ∧ Call (pG L xs) pM d 52 [.ref a0, a1, a2] h (fun v h' => Ev (pG L xs) pM d B rt Q is ls (v.toList ++ st) h')) := e_invokevirtual3 rfl
theorem k52_1 : b52 (Int.toNat (.ofNat 1)) = b52_1 := rfl
theorem k52_2 : b52 (Int.toNat (.ofNat 2)) = b52_2 := rfl
theorem m53 : Call (pG L xs) pM (d + 1) 53 as h Q = ((xent as).length ≤ 4 ∧ Ev (pG L xs) pM d b53 (none) Q b53_0 (xentry as 4) [] h) := rfl
theorem v53 {a0 : Nat} {a1 : Value} : Ev (pG L xs) pM d B rt Q (.invokevirtual 53 :: is) ls (a1 :: .ref a0 :: st) h = ((xis h a0 (.inr 6) ∧ (st.map fun v => v.category).sum ≤ 8) ∧ Call (pG L xs) pM d 53 [.ref a0, a1] h (fun v h' => Ev (pG L xs) pM d B rt Q is ls (v.toList ++ st) h')) := e_invokevirtual2 rfl
theorem k53_1 : b53 (Int.toNat (.ofNat 1)) = b53_1 := rfl
theorem k53_2 : b53 (Int.toNat (.ofNat 2)) = b53_2 := rfl
theorem k53_3 : b53 (Int.toNat (.ofNat 3)) = b53_3 := rfl
theorem k53_4 : b53 (Int.toNat (.ofNat 4)) = b53_4 := rfl
theorem k53_5 : b53 (Int.toNat (.ofNat 5)) = b53_5 := rfl
theorem k53_6 : b53 (Int.toNat (.ofNat 6)) = b53_6 := rfl
theorem k53_0 : b53 (Int.toNat (.ofNat 0)) = b53_0 := rfl
theorem m54 : Call (pG L xs) pM (d + 1) 54 as h Q = ((xent as).length ≤ 3 ∧ Ev (pG L xs) pM d b54 (none) Q b54_0 (xentry as 3) [] h) := rfl
theorem v54 {a0 : Nat} {a1 a2 : Value} : Ev (pG L xs) pM d B rt Q (.invokevirtual 54 :: is) ls (a2 :: a1 :: .ref a0 :: st) h = ((xis h a0 (.inr 6) ∧ (st.map fun v => v.category).sum ≤ 8) ∧ Call (pG L xs) pM d 54 [.ref a0, a1, a2] h (fun v h' => Ev (pG L xs) pM d B rt Q is ls (v.toList ++ st) h')) := e_invokevirtual3 rfl
theorem k54_1 : b54 (Int.toNat (.ofNat 1)) = b54_1 := rfl
theorem m55 : Call (pG L xs) pM (d + 1) 55 as h Q = ((xent as).length ≤ 2 ∧ Ev (pG L xs) pM d b55 (none) Q b55_0 (xentry as 2) [] h) := rfl
theorem v55 {a0 : Nat} {a1 : Value} : Ev (pG L xs) pM d B rt Q (.invokevirtual 55 :: is) ls (a1 :: .ref a0 :: st) h = ((xis h a0 (.inr 6) ∧ (st.map fun v => v.category).sum ≤ 8) ∧ Call (pG L xs) pM d 55 [.ref a0, a1] h (fun v h' => Ev (pG L xs) pM d B rt Q is ls (v.toList ++ st) h')) := e_invokevirtual2 rfl
theorem k55_1 : b55 (Int.toNat (.ofNat 1)) = b55_1 := rfl
theorem k55_2 : b55 (Int.toNat (.ofNat 2)) = b55_2 := rfl
theorem k55_3 : b55 (Int.toNat (.ofNat 3)) = b55_3 := rfl
theorem k55_4 : b55 (Int.toNat (.ofNat 4)) = b55_4 := rfl
theorem k55_5 : b55 (Int.toNat (.ofNat 5)) = b55_5 := rfl
theorem k55_0 : b55 (Int.toNat (.ofNat 0)) = b55_0 := rfl
theorem m56 : Call (pG L xs) pM (d + 1) 56 as h Q = ((xent as).length ≤ 3 ∧ Ev (pG L xs) pM d b56 (none) Q b56_0 (xentry as 3) [] h) := rfl
theorem v56 {a0 : Nat} {a1 a2 : Value} : Ev (pG L xs) pM d B rt Q (.invokevirtual 56 :: is) ls (a2 :: a1 :: .ref a0 :: st) h = ((xis h a0 (.inr 6) ∧ (st.map fun v => v.category).sum ≤ 8) ∧ Call (pG L xs) pM d 56 [.ref a0, a1, a2] h (fun v h' => Ev (pG L xs) pM d B rt Q is ls (v.toList ++ st) h')) := e_invokevirtual3 rfl
theorem m57 : Call (pG L xs) pM (d + 1) 57 as h Q = ((xent as).length ≤ 1 ∧ Ev (pG L xs) pM d b57 (none) Q b57_0 (xentry as 1) [] h) := rfl
theorem v57 {a0 : Nat}  : Ev (pG L xs) pM d B rt Q (.invokevirtual 57 :: is) ls (.ref a0 :: st) h = ((xis h a0 (.inr 6) ∧ (st.map fun v => v.category).sum ≤ 8) ∧ Call (pG L xs) pM d 57 [.ref a0] h (fun v h' => Ev (pG L xs) pM d B rt Q is ls (v.toList ++ st) h')) := e_invokevirtual1 rfl
theorem k57_1 : b57 (Int.toNat (.ofNat 1)) = b57_1 := rfl
theorem m58 : Call (pG L xs) pM (d + 1) 58 as h Q = ((xent as).length ≤ 3 ∧ Ev (pG L xs) pM d b58 (none) Q b58_0 (xentry as 3) [] h) := rfl
theorem v58 {a0 : Nat} {a1 a2 : Value} : Ev (pG L xs) pM d B rt Q (.invokevirtual 58 :: is) ls (a2 :: a1 :: .ref a0 :: st) h = ((xis h a0 (.inr 6) ∧ (st.map fun v => v.category).sum ≤ 8) ∧ Call (pG L xs) pM d 58 [.ref a0, a1, a2] h (fun v h' => Ev (pG L xs) pM d B rt Q is ls (v.toList ++ st) h')) := e_invokevirtual3 rfl
theorem k58_1 : b58 (Int.toNat (.ofNat 1)) = b58_1 := rfl
theorem k58_2 : b58 (Int.toNat (.ofNat 2)) = b58_2 := rfl
theorem k58_0 : b58 (Int.toNat (.ofNat 0)) = b58_0 := rfl
theorem m59 : Call (pG L xs) pM (d + 1) 59 as h Q = ((xent as).length ≤ 2 ∧ Ev (pG L xs) pM d b59 (none) Q b59_0 (xentry as 2) [] h) := rfl
theorem v59 {a0 : Nat} {a1 : Value} : Ev (pG L xs) pM d B rt Q (.invokevirtual 59 :: is) ls (a1 :: .ref a0 :: st) h = ((xis h a0 (.inr 6) ∧ (st.map fun v => v.category).sum ≤ 8) ∧ Call (pG L xs) pM d 59 [.ref a0, a1] h (fun v h' => Ev (pG L xs) pM d B rt Q is ls (v.toList ++ st) h')) := e_invokevirtual2 rfl
theorem k59_1 : b59 (Int.toNat (.ofNat 1)) = b59_1 := rfl
theorem k59_2 : b59 (Int.toNat (.ofNat 2)) = b59_2 := rfl
theorem k59_0 : b59 (Int.toNat (.ofNat 0)) = b59_0 := rfl
theorem m60 : Call (pG L xs) pM (d + 1) 60 as h Q = ((xent as).length ≤ 2 ∧ Ev (pG L xs) pM d b60 (none) Q b60_0 (xentry as 2) [] h) := rfl
theorem v60 {a0 : Nat} {a1 : Value} : Ev (pG L xs) pM d B rt Q (.invokevirtual 60 :: is) ls (a1 :: .ref a0 :: st) h = ((xis h a0 (.inr 6) ∧ (st.map fun v => v.category).sum ≤ 8) ∧ Call (pG L xs) pM d 60 [.ref a0, a1] h (fun v h' => Ev (pG L xs) pM d B rt Q is ls (v.toList ++ st) h')) := e_invokevirtual2 rfl
theorem k60_1 : b60 (Int.toNat (.ofNat 1)) = b60_1 := rfl
theorem m61 : Call (pG L xs) pM (d + 1) 61 as h Q = ((xent as).length ≤ 2 ∧ Ev (pG L xs) pM d b61 (none) Q b61_0 (xentry as 2) [] h) := rfl
theorem v61 {a0 : Nat} {a1 : Value} : Ev (pG L xs) pM d B rt Q (.invokevirtual 61 :: is) ls (a1 :: .ref a0 :: st) h = ((xis h a0 (.inr 6) ∧ (st.map fun v => v.category).sum ≤ 8) ∧ Call (pG L xs) pM d 61 [.ref a0, a1] h (fun v h' => Ev (pG L xs) pM d B rt Q is ls (v.toList ++ st) h')) := e_invokevirtual2 rfl
theorem k61_1 : b61 (Int.toNat (.ofNat 1)) = b61_1 := rfl
theorem m62 : Call (pG L xs) pM (d + 1) 62 as h Q = ((xent as).length ≤ 1 ∧ Ev (pG L xs) pM d b62 (some FieldType.int) Q b62_0 (xentry as 1) [] h) := rfl
theorem v62 {a0 : Value} : Ev (pG L xs) pM d B rt Q (.invokestatic 62 :: is) ls (a0 :: st) h = (((st.map fun v => v.category).sum ≤ 8) ∧ Call (pG L xs) pM d 62 [a0] h (fun v h' => Ev (pG L xs) pM d B rt Q is ls (v.toList ++ st) h')) := e_invokestatic1 rfl
theorem k62_1 : b62 (Int.toNat (.ofNat 1)) = b62_1 := rfl
theorem k62_2 : b62 (Int.toNat (.ofNat 2)) = b62_2 := rfl
theorem k62_3 : b62 (Int.toNat (.ofNat 3)) = b62_3 := rfl
theorem k62_4 : b62 (Int.toNat (.ofNat 4)) = b62_4 := rfl
theorem k62_5 : b62 (Int.toNat (.ofNat 5)) = b62_5 := rfl
theorem k62_6 : b62 (Int.toNat (.ofNat 6)) = b62_6 := rfl
theorem m63 : Call (pG L xs) pM (d + 1) 63 as h Q = ((xent as).length ≤ 1 ∧ Ev (pG L xs) pM d b63 (some FieldType.int) Q b63_0 (xentry as 1) [] h) := rfl
theorem v63 {a0 : Value} : Ev (pG L xs) pM d B rt Q (.invokestatic 63 :: is) ls (a0 :: st) h = (((st.map fun v => v.category).sum ≤ 8) ∧ Call (pG L xs) pM d 63 [a0] h (fun v h' => Ev (pG L xs) pM d B rt Q is ls (v.toList ++ st) h')) := e_invokestatic1 rfl
theorem k63_1 : b63 (Int.toNat (.ofNat 1)) = b63_1 := rfl
theorem k63_2 : b63 (Int.toNat (.ofNat 2)) = b63_2 := rfl
theorem k63_3 : b63 (Int.toNat (.ofNat 3)) = b63_3 := rfl
theorem k63_4 : b63 (Int.toNat (.ofNat 4)) = b63_4 := rfl
theorem k63_5 : b63 (Int.toNat (.ofNat 5)) = b63_5 := rfl
theorem k63_6 : b63 (Int.toNat (.ofNat 6)) = b63_6 := rfl
theorem m64 : Call (pG L xs) pM (d + 1) 64 as h Q = ((xent as).length ≤ 1 ∧ Ev (pG L xs) pM d b64 (none) Q b64_0 (xentry as 1) [] h) := rfl
theorem v64 {a0 : Nat}  : Ev (pG L xs) pM d B rt Q (.invokespecial 64 :: is) ls (.ref a0 :: st) h = (((st.map fun v => v.category).sum ≤ 8) ∧ Call (pG L xs) pM d 64 [.ref a0] h (fun v h' => Ev (pG L xs) pM d B rt Q is ls (v.toList ++ st) h')) := e_invokespecial1 rfl
theorem m65 : Call (pG L xs) pM (d + 1) 65 as h Q = ((xent as).length ≤ 2 ∧ Ev (pG L xs) pM d b65 (none) Q b65_0 (xentry as 2) [] h) := rfl
theorem v65 {a0 : Nat} {a1 : Value} : Ev (pG L xs) pM d B rt Q (.invokevirtual 65 :: is) ls (a1 :: .ref a0 :: st) h = ((xis h a0 (.inr 7) ∧ (st.map fun v => v.category).sum ≤ 8) ∧ Call (pG L xs) pM d 65 [.ref a0, a1] h (fun v h' => Ev (pG L xs) pM d B rt Q is ls (v.toList ++ st) h')) := e_invokevirtual2 rfl
theorem k65_0 : b65 (Int.toNat (.ofNat 0)) = b65_0 := rfl
theorem m66 : Call (pG L xs) pM (d + 1) 66 as h Q = ((xent as).length ≤ 1 ∧ Ev (pG L xs) pM d b66 (some FieldType.boolean) Q b66_0 (xentry as 1) [] h) := rfl
theorem v66 {a0 : Nat}  : Ev (pG L xs) pM d B rt Q (.invokevirtual 66 :: is) ls (.ref a0 :: st) h = ((xis h a0 (.inr 7) ∧ (st.map fun v => v.category).sum ≤ 8) ∧ Call (pG L xs) pM d 66 [.ref a0] h (fun v h' => Ev (pG L xs) pM d B rt Q is ls (v.toList ++ st) h')) := e_invokevirtual1 rfl
theorem k66_1 : b66 (Int.toNat (.ofNat 1)) = b66_1 := rfl
theorem k66_2 : b66 (Int.toNat (.ofNat 2)) = b66_2 := rfl
theorem k66_0 : b66 (Int.toNat (.ofNat 0)) = b66_0 := rfl
theorem m67 : Call (pG L xs) pM (d + 1) 67 as h Q = ((xent as).length ≤ 4 ∧ Ev (pG L xs) pM d b67 (none) Q b67_0 (xentry as 4) [] h) := rfl
theorem v67 {a0 : Nat} {a1 a2 a3 : Value} : Ev (pG L xs) pM d B rt Q (.invokevirtual 67 :: is) ls (a3 :: a2 :: a1 :: .ref a0 :: st) h = ((xis h a0 (.inr 7) ∧ (st.map fun v => v.category).sum ≤ 8) ∧ Call (pG L xs) pM d 67 [.ref a0, a1, a2, a3] h (fun v h' => Ev (pG L xs) pM d B rt Q is ls (v.toList ++ st) h')) := e_invokevirtual4 rfl
theorem k67_1 : b67 (Int.toNat (.ofNat 1)) = b67_1 := rfl
theorem m68 : Call (pG L xs) pM (d + 1) 68 as h Q = ((xent as).length ≤ 1 ∧ Ev (pG L xs) pM d b68 (none) Q b68_0 (xentry as 1) [] h) := rfl
theorem v68 {a0 : Nat}  : Ev (pG L xs) pM d B rt Q (.invokespecial 68 :: is) ls (.ref a0 :: st) h = (((st.map fun v => v.category).sum ≤ 8) ∧ Call (pG L xs) pM d 68 [.ref a0] h (fun v h' => Ev (pG L xs) pM d B rt Q is ls (v.toList ++ st) h')) := e_invokespecial1 rfl
theorem m69 : Call (pG L xs) pM (d + 1) 69 as h Q = ((xent as).length ≤ 2 ∧ Ev (pG L xs) pM d b69 (some FieldType.boolean) Q b69_0 (xentry as 2) [] h) := rfl
theorem v69 {a0 : Nat} {a1 : Value} : Ev (pG L xs) pM d B rt Q (.invokevirtual 69 :: is) ls (a1 :: .ref a0 :: st) h = ((xis h a0 (.inr 8) ∧ (st.map fun v => v.category).sum ≤ 8) ∧ Call (pG L xs) pM d 69 [.ref a0, a1] h (fun v h' => Ev (pG L xs) pM d B rt Q is ls (v.toList ++ st) h')) := e_invokevirtual2 rfl
theorem k69_1 : b69 (Int.toNat (.ofNat 1)) = b69_1 := rfl
theorem k69_2 : b69 (Int.toNat (.ofNat 2)) = b69_2 := rfl
theorem k69_0 : b69 (Int.toNat (.ofNat 0)) = b69_0 := rfl
theorem m70 : Call (pG L xs) pM (d + 1) 70 as h Q = ((xent as).length ≤ 3 ∧ Ev (pG L xs) pM d b70 (none) Q b70_0 (xentry as 3) [] h) := rfl
theorem v70 {a0 : Nat} {a1 : Value} : Ev (pG L xs) pM d B rt Q (.invokevirtual 70 :: is) ls (a1 :: .ref a0 :: st) h = ((xis h a0 (.inr 8) ∧ (st.map fun v => v.category).sum ≤ 8) ∧ Call (pG L xs) pM d 70 [.ref a0, a1] h (fun v h' => Ev (pG L xs) pM d B rt Q is ls (v.toList ++ st) h')) := e_invokevirtual2 rfl
theorem k70_1 : b70 (Int.toNat (.ofNat 1)) = b70_1 := rfl
theorem k70_2 : b70 (Int.toNat (.ofNat 2)) = b70_2 := rfl
theorem m71 : Call (pG L xs) pM (d + 1) 71 as h Q = ((xent as).length ≤ 1 ∧ Ev (pG L xs) pM d b71 (none) Q b71_0 (xentry as 1) [] h) := rfl
theorem v71 {a0 : Nat}  : Ev (pG L xs) pM d B rt Q (.invokevirtual 71 :: is) ls (.ref a0 :: st) h = ((xis h a0 (.inr 8) ∧ (st.map fun v => v.category).sum ≤ 8) ∧ Call (pG L xs) pM d 71 [.ref a0] h (fun v h' => Ev (pG L xs) pM d B rt Q is ls (v.toList ++ st) h')) := e_invokevirtual1 rfl
theorem k71_0 : b71 (Int.toNat (.ofNat 0)) = b71_0 := rfl
theorem m72 : Call (pG L xs) pM (d + 1) 72 as h Q = ((xent as).length ≤ 2 ∧ Ev (pG L xs) pM d b72 (none) Q b72_0 (xentry as 2) [] h) := rfl
theorem v72 {a0 : Nat}  : Ev (pG L xs) pM d B rt Q (.invokevirtual 72 :: is) ls (.ref a0 :: st) h = ((xis h a0 (.inr 8) ∧ (st.map fun v => v.category).sum ≤ 8) ∧ Call (pG L xs) pM d 72 [.ref a0] h (fun v h' => Ev (pG L xs) pM d B rt Q is ls (v.toList ++ st) h')) := e_invokevirtual1 rfl
theorem k72_1 : b72 (Int.toNat (.ofNat 1)) = b72_1 := rfl
theorem k72_2 : b72 (Int.toNat (.ofNat 2)) = b72_2 := rfl
theorem k72_3 : b72 (Int.toNat (.ofNat 3)) = b72_3 := rfl
theorem k72_4 : b72 (Int.toNat (.ofNat 4)) = b72_4 := rfl
theorem k72_5 : b72 (Int.toNat (.ofNat 5)) = b72_5 := rfl
theorem k72_6 : b72 (Int.toNat (.ofNat 6)) = b72_6 := rfl
theorem m73 : Call (pG L xs) pM (d + 1) 73 as h Q = ((xent as).length ≤ 3 ∧ Ev (pG L xs) pM d b73 (none) Q b73_0 (xentry as 3) [] h) := rfl
theorem v73 {a0 : Nat} {a1 a2 : Value} : Ev (pG L xs) pM d B rt Q (.invokevirtual 73 :: is) ls (a2 :: a1 :: .ref a0 :: st) h = ((xis h a0 (.inr 8) ∧ (st.map fun v => v.category).sum ≤ 8) ∧ Call (pG L xs) pM d 73 [.ref a0, a1, a2] h (fun v h' => Ev (pG L xs) pM d B rt Q is ls (v.toList ++ st) h')) := e_invokevirtual3 rfl
theorem k73_1 : b73 (Int.toNat (.ofNat 1)) = b73_1 := rfl
theorem k73_0 : b73 (Int.toNat (.ofNat 0)) = b73_0 := rfl
theorem m74 : Call (pG L xs) pM (d + 1) 74 as h Q = ((xent as).length ≤ 3 ∧ Ev (pG L xs) pM d b74 (some FieldType.int) Q b74_0 (xentry as 3) [] h) := rfl
theorem v74 {a0 : Nat}  : Ev (pG L xs) pM d B rt Q (.invokevirtual 74 :: is) ls (.ref a0 :: st) h = ((xis h a0 (.inr 8) ∧ (st.map fun v => v.category).sum ≤ 8) ∧ Call (pG L xs) pM d 74 [.ref a0] h (fun v h' => Ev (pG L xs) pM d B rt Q is ls (v.toList ++ st) h')) := e_invokevirtual1 rfl
theorem k74_1 : b74 (Int.toNat (.ofNat 1)) = b74_1 := rfl
theorem k74_2 : b74 (Int.toNat (.ofNat 2)) = b74_2 := rfl
theorem k74_3 : b74 (Int.toNat (.ofNat 3)) = b74_3 := rfl
theorem k74_0 : b74 (Int.toNat (.ofNat 0)) = b74_0 := rfl
theorem m75 : Call (pG L xs) pM (d + 1) 75 as h Q = ((xent as).length ≤ 3 ∧ Ev (pG L xs) pM d b75 (none) Q b75_0 (xentry as 3) [] h) := rfl
theorem v75 {a0 : Nat} {a1 : Value} : Ev (pG L xs) pM d B rt Q (.invokevirtual 75 :: is) ls (a1 :: .ref a0 :: st) h = ((xis h a0 (.inr 8) ∧ (st.map fun v => v.category).sum ≤ 8) ∧ Call (pG L xs) pM d 75 [.ref a0, a1] h (fun v h' => Ev (pG L xs) pM d B rt Q is ls (v.toList ++ st) h')) := e_invokevirtual2 rfl
theorem k75_1 : b75 (Int.toNat (.ofNat 1)) = b75_1 := rfl
theorem k75_2 : b75 (Int.toNat (.ofNat 2)) = b75_2 := rfl
theorem k75_3 : b75 (Int.toNat (.ofNat 3)) = b75_3 := rfl
theorem k75_4 : b75 (Int.toNat (.ofNat 4)) = b75_4 := rfl
theorem k75_0 : b75 (Int.toNat (.ofNat 0)) = b75_0 := rfl
theorem m76 : Call (pG L xs) pM (d + 1) 76 as h Q = ((xent as).length ≤ 2 ∧ Ev (pG L xs) pM d b76 (some FieldType.boolean) Q b76_0 (xentry as 2) [] h) := rfl
theorem v76 {a0 : Nat} {a1 : Value} : Ev (pG L xs) pM d B rt Q (.invokevirtual 76 :: is) ls (a1 :: .ref a0 :: st) h = ((xis h a0 (.inr 8) ∧ (st.map fun v => v.category).sum ≤ 8) ∧ Call (pG L xs) pM d 76 [.ref a0, a1] h (fun v h' => Ev (pG L xs) pM d B rt Q is ls (v.toList ++ st) h')) := e_invokevirtual2 rfl
theorem k76_1 : b76 (Int.toNat (.ofNat 1)) = b76_1 := rfl
theorem k76_2 : b76 (Int.toNat (.ofNat 2)) = b76_2 := rfl
theorem k76_0 : b76 (Int.toNat (.ofNat 0)) = b76_0 := rfl
theorem m77 : Call (pG L xs) pM (d + 1) 77 as h Q = ((xent as).length ≤ 5 ∧ Ev (pG L xs) pM d b77 (some FieldType.int) Q b77_0 (xentry as 5) [] h) := rfl
theorem v77 {a0 : Nat} {a1 : Value} : Ev (pG L xs) pM d B rt Q (.invokevirtual 77 :: is) ls (a1 :: .ref a0 :: st) h = ((xis h a0 (.inr 8) ∧ (st.map fun v => v.category).sum ≤ 8) ∧ Call (pG L xs) pM d 77 [.ref a0, a1] h (fun v h' => Ev (pG L xs) pM d B rt Q is ls (v.toList ++ st) h')) := e_invokevirtual2 rfl
theorem k77_1 : b77 (Int.toNat (.ofNat 1)) = b77_1 := rfl
theorem k77_2 : b77 (Int.toNat (.ofNat 2)) = b77_2 := rfl
theorem k77_3 : b77 (Int.toNat (.ofNat 3)) = b77_3 := rfl
theorem k77_4 : b77 (Int.toNat (.ofNat 4)) = b77_4 := rfl
theorem k77_5 : b77 (Int.toNat (.ofNat 5)) = b77_5 := rfl
theorem k77_0 : b77 (Int.toNat (.ofNat 0)) = b77_0 := rfl
theorem m78 : Call (pG L xs) pM (d + 1) 78 as h Q = ((xent as).length ≤ 5 ∧ Ev (pG L xs) pM d b78 (some FieldType.boolean) Q b78_0 (xentry as 5) [] h) := rfl
theorem v78 {a0 : Nat} {a1 a2 a3 : Value} : Ev (pG L xs) pM d B rt Q (.invokevirtual 78 :: is) ls (a3 :: a2 :: a1 :: .ref a0 :: st) h = ((xis h a0 (.inr 8) ∧ (st.map fun v => v.category).sum ≤ 8) ∧ Call (pG L xs) pM d 78 [.ref a0, a1, a2, a3] h (fun v h' => Ev (pG L xs) pM d B rt Q is ls (v.toList ++ st) h')) := e_invokevirtual4 rfl
theorem k78_1 : b78 (Int.toNat (.ofNat 1)) = b78_1 := rfl
theorem k78_2 : b78 (Int.toNat (.ofNat 2)) = b78_2 := rfl
theorem k78_3 : b78 (Int.toNat (.ofNat 3)) = b78_3 := rfl
theorem k78_4 : b78 (Int.toNat (.ofNat 4)) = b78_4 := rfl
theorem k78_0 : b78 (Int.toNat (.ofNat 0)) = b78_0 := rfl
theorem m79 : Call (pG L xs) pM (d + 1) 79 as h Q = ((xent as).length ≤ 1 ∧ Ev (pG L xs) pM d b79 (some FieldType.boolean) Q b79_0 (xentry as 1) [] h) := rfl
theorem v79 {a0 : Nat}  : Ev (pG L xs) pM d B rt Q (.invokevirtual 79 :: is) ls (.ref a0 :: st) h = ((xis h a0 (.inr 8) ∧ (st.map fun v => v.category).sum ≤ 8) ∧ Call (pG L xs) pM d 79 [.ref a0] h (fun v h' => Ev (pG L xs) pM d B rt Q is ls (v.toList ++ st) h')) := e_invokevirtual1 rfl
theorem k79_1 : b79 (Int.toNat (.ofNat 1)) = b79_1 := rfl
theorem k79_2 : b79 (Int.toNat (.ofNat 2)) = b79_2 := rfl
theorem k79_3 : b79 (Int.toNat (.ofNat 3)) = b79_3 := rfl
theorem k79_0 : b79 (Int.toNat (.ofNat 0)) = b79_0 := rfl
theorem m80 : Call (pG L xs) pM (d + 1) 80 as h Q = ((xent as).length ≤ 2 ∧ Ev (pG L xs) pM d b80 (some FieldType.int) Q b80_0 (xentry as 2) [] h) := rfl
theorem v80 {a0 : Nat} {a1 : Value} : Ev (pG L xs) pM d B rt Q (.invokevirtual 80 :: is) ls (a1 :: .ref a0 :: st) h = ((xis h a0 (.inr 8) ∧ (st.map fun v => v.category).sum ≤ 8) ∧ Call (pG L xs) pM d 80 [.ref a0, a1] h (fun v h' => Ev (pG L xs) pM d B rt Q is ls (v.toList ++ st) h')) := e_invokevirtual2 rfl
theorem m81 : Call (pG L xs) pM (d + 1) 81 as h Q = ((xent as).length ≤ 1 ∧ Ev (pG L xs) pM d b81 (none) Q b81_0 (xentry as 1) [] h) := rfl
theorem v81 {a0 : Nat}  : Ev (pG L xs) pM d B rt Q (.invokespecial 81 :: is) ls (.ref a0 :: st) h = (((st.map fun v => v.category).sum ≤ 8) ∧ Call (pG L xs) pM d 81 [.ref a0] h (fun v h' => Ev (pG L xs) pM d B rt Q is ls (v.toList ++ st) h')) := e_invokespecial1 rfl
theorem m82 : Call (pG L xs) pM (d + 1) 82 as h Q = ((xent as).length ≤ 4 ∧ Ev (pG L xs) pM d b82 (some (FieldType.object "RankFord$World")) Q b82_0 (xentry as 4) [] h) := rfl
theorem v82 {a0 : Nat} {a1 a2 a3 : Value} : Ev (pG L xs) pM d B rt Q (.invokevirtual 82 :: is) ls (a3 :: a2 :: a1 :: .ref a0 :: st) h = ((xis h a0 (.inr 9) ∧ (st.map fun v => v.category).sum ≤ 8) ∧ Call (pG L xs) pM d 82 [.ref a0, a1, a2, a3] h (fun v h' => Ev (pG L xs) pM d B rt Q is ls (v.toList ++ st) h')) := e_invokevirtual4 rfl
theorem m83 : Call (pG L xs) pM (d + 1) 83 as h Q = ((xent as).length ≤ 4 ∧ Ev (pG L xs) pM d b83 (some FieldType.int) Q b83_0 (xentry as 4) [] h) := rfl
theorem v83 {a0 : Nat} {a1 a2 : Value} : Ev (pG L xs) pM d B rt Q (.invokevirtual 83 :: is) ls (a2 :: a1 :: .ref a0 :: st) h = ((xis h a0 (.inr 9) ∧ (st.map fun v => v.category).sum ≤ 8) ∧ Call (pG L xs) pM d 83 [.ref a0, a1, a2] h (fun v h' => Ev (pG L xs) pM d B rt Q is ls (v.toList ++ st) h')) := e_invokevirtual3 rfl
theorem k83_1 : b83 (Int.toNat (.ofNat 1)) = b83_1 := rfl
theorem k83_2 : b83 (Int.toNat (.ofNat 2)) = b83_2 := rfl
theorem k83_3 : b83 (Int.toNat (.ofNat 3)) = b83_3 := rfl
theorem k83_0 : b83 (Int.toNat (.ofNat 0)) = b83_0 := rfl
theorem m84 : Call (pG L xs) pM (d + 1) 84 as h Q = ((xent as).length ≤ 5 ∧ Ev (pG L xs) pM d b84 (none) Q b84_0 (xentry as 5) [] h) := rfl
theorem v84 {a0 : Nat} {a1 : Value} : Ev (pG L xs) pM d B rt Q (.invokevirtual 84 :: is) ls (a1 :: .ref a0 :: st) h = ((xis h a0 (.inr 9) ∧ (st.map fun v => v.category).sum ≤ 8) ∧ Call (pG L xs) pM d 84 [.ref a0, a1] h (fun v h' => Ev (pG L xs) pM d B rt Q is ls (v.toList ++ st) h')) := e_invokevirtual2 rfl
theorem k84_1 : b84 (Int.toNat (.ofNat 1)) = b84_1 := rfl
theorem k84_2 : b84 (Int.toNat (.ofNat 2)) = b84_2 := rfl
theorem k84_3 : b84 (Int.toNat (.ofNat 3)) = b84_3 := rfl
theorem k84_4 : b84 (Int.toNat (.ofNat 4)) = b84_4 := rfl
theorem k84_5 : b84 (Int.toNat (.ofNat 5)) = b84_5 := rfl
theorem k84_0 : b84 (Int.toNat (.ofNat 0)) = b84_0 := rfl
theorem m85 : Call (pG L xs) pM (d + 1) 85 as h Q = ((xent as).length ≤ 3 ∧ Ev (pG L xs) pM d b85 (some FieldType.int) Q b85_0 (xentry as 3) [] h) := rfl
theorem v85 {a0 : Nat}  : Ev (pG L xs) pM d B rt Q (.invokevirtual 85 :: is) ls (.ref a0 :: st) h = ((xis h a0 (.inr 9) ∧ (st.map fun v => v.category).sum ≤ 8) ∧ Call (pG L xs) pM d 85 [.ref a0] h (fun v h' => Ev (pG L xs) pM d B rt Q is ls (v.toList ++ st) h')) := e_invokevirtual1 rfl
theorem k85_1 : b85 (Int.toNat (.ofNat 1)) = b85_1 := rfl
theorem k85_2 : b85 (Int.toNat (.ofNat 2)) = b85_2 := rfl
theorem k85_3 : b85 (Int.toNat (.ofNat 3)) = b85_3 := rfl
theorem k85_0 : b85 (Int.toNat (.ofNat 0)) = b85_0 := rfl
theorem m86 : Call (pG L xs) pM (d + 1) 86 as h Q = ((xent as).length ≤ 4 ∧ Ev (pG L xs) pM d b86 (some FieldType.int) Q b86_0 (xentry as 4) [] h) := rfl
theorem v86 {a0 : Nat} {a1 a2 : Value} : Ev (pG L xs) pM d B rt Q (.invokevirtual 86 :: is) ls (a2 :: a1 :: .ref a0 :: st) h = ((xis h a0 (.inr 9) ∧ (st.map fun v => v.category).sum ≤ 8) ∧ Call (pG L xs) pM d 86 [.ref a0, a1, a2] h (fun v h' => Ev (pG L xs) pM d B rt Q is ls (v.toList ++ st) h')) := e_invokevirtual3 rfl
theorem k86_1 : b86 (Int.toNat (.ofNat 1)) = b86_1 := rfl
theorem k86_2 : b86 (Int.toNat (.ofNat 2)) = b86_2 := rfl
theorem k86_3 : b86 (Int.toNat (.ofNat 3)) = b86_3 := rfl
theorem k86_0 : b86 (Int.toNat (.ofNat 0)) = b86_0 := rfl
theorem m87 : Call (pG L xs) pM (d + 1) 87 as h Q = ((xent as).length ≤ 5 ∧ Ev (pG L xs) pM d b87 (some FieldType.int) Q b87_0 (xentry as 5) [] h) := rfl
theorem v87 {a0 : Nat} {a1 a2 a3 : Value} : Ev (pG L xs) pM d B rt Q (.invokevirtual 87 :: is) ls (a3 :: a2 :: a1 :: .ref a0 :: st) h = ((xis h a0 (.inr 9) ∧ (st.map fun v => v.category).sum ≤ 8) ∧ Call (pG L xs) pM d 87 [.ref a0, a1, a2, a3] h (fun v h' => Ev (pG L xs) pM d B rt Q is ls (v.toList ++ st) h')) := e_invokevirtual4 rfl
theorem k87_1 : b87 (Int.toNat (.ofNat 1)) = b87_1 := rfl
theorem k87_2 : b87 (Int.toNat (.ofNat 2)) = b87_2 := rfl
theorem k87_3 : b87 (Int.toNat (.ofNat 3)) = b87_3 := rfl
theorem k87_0 : b87 (Int.toNat (.ofNat 0)) = b87_0 := rfl
theorem m88 : Call (pG L xs) pM (d + 1) 88 as h Q = ((xent as).length ≤ 6 ∧ Ev (pG L xs) pM d b88 (none) Q b88_0 (xentry as 6) [] h) := rfl
theorem v88 {a0 : Nat} {a1 a2 a3 : Value} : Ev (pG L xs) pM d B rt Q (.invokevirtual 88 :: is) ls (a3 :: a2 :: a1 :: .ref a0 :: st) h = ((xis h a0 (.inr 9) ∧ (st.map fun v => v.category).sum ≤ 8) ∧ Call (pG L xs) pM d 88 [.ref a0, a1, a2, a3] h (fun v h' => Ev (pG L xs) pM d B rt Q is ls (v.toList ++ st) h')) := e_invokevirtual4 rfl
theorem k88_1 : b88 (Int.toNat (.ofNat 1)) = b88_1 := rfl
theorem k88_2 : b88 (Int.toNat (.ofNat 2)) = b88_2 := rfl
theorem k88_3 : b88 (Int.toNat (.ofNat 3)) = b88_3 := rfl
theorem k88_4 : b88 (Int.toNat (.ofNat 4)) = b88_4 := rfl
theorem k88_0 : b88 (Int.toNat (.ofNat 0)) = b88_0 := rfl
theorem m89 : Call (pG L xs) pM (d + 1) 89 as h Q = ((xent as).length ≤ 7 ∧ Ev (pG L xs) pM d b89 (none) Q b89_0 (xentry as 7) [] h) := rfl
theorem v89 {a0 : Nat} {a1 a2 a3 a4 a5 : Value} : Ev (pG L xs) pM d B rt Q (.invokevirtual 89 :: is) ls (a5 :: a4 :: a3 :: a2 :: a1 :: .ref a0 :: st) h = ((xis h a0 (.inr 9) ∧ (st.map fun v => v.category).sum ≤ 8) ∧ Call (pG L xs) pM d 89 [.ref a0, a1, a2, a3, a4, a5] h (fun v h' => Ev (pG L xs) pM d B rt Q is ls (v.toList ++ st) h')) := e_invokevirtual6 rfl
theorem k89_1 : b89 (Int.toNat (.ofNat 1)) = b89_1 := rfl
theorem k89_2 : b89 (Int.toNat (.ofNat 2)) = b89_2 := rfl
theorem k89_0 : b89 (Int.toNat (.ofNat 0)) = b89_0 := rfl
theorem m90 : Call (pG L xs) pM (d + 1) 90 as h Q = ((xent as).length ≤ 5 ∧ Ev (pG L xs) pM d b90 (some FieldType.int) Q b90_0 (xentry as 5) [] h) := rfl
theorem v90 {a0 : Nat} {a1 : Value} : Ev (pG L xs) pM d B rt Q (.invokevirtual 90 :: is) ls (a1 :: .ref a0 :: st) h = ((xis h a0 (.inr 9) ∧ (st.map fun v => v.category).sum ≤ 8) ∧ Call (pG L xs) pM d 90 [.ref a0, a1] h (fun v h' => Ev (pG L xs) pM d B rt Q is ls (v.toList ++ st) h')) := e_invokevirtual2 rfl
theorem k90_1 : b90 (Int.toNat (.ofNat 1)) = b90_1 := rfl
theorem k90_2 : b90 (Int.toNat (.ofNat 2)) = b90_2 := rfl
theorem k90_3 : b90 (Int.toNat (.ofNat 3)) = b90_3 := rfl
theorem k90_4 : b90 (Int.toNat (.ofNat 4)) = b90_4 := rfl
theorem k90_5 : b90 (Int.toNat (.ofNat 5)) = b90_5 := rfl
theorem k90_6 : b90 (Int.toNat (.ofNat 6)) = b90_6 := rfl
theorem k90_7 : b90 (Int.toNat (.ofNat 7)) = b90_7 := rfl
theorem k90_8 : b90 (Int.toNat (.ofNat 8)) = b90_8 := rfl
theorem k90_9 : b90 (Int.toNat (.ofNat 9)) = b90_9 := rfl
theorem k90_0 : b90 (Int.toNat (.ofNat 0)) = b90_0 := rfl
theorem m91 : Call (pG L xs) pM (d + 1) 91 as h Q = ((xent as).length ≤ 7 ∧ Ev (pG L xs) pM d b91 (some FieldType.boolean) Q b91_0 (xentry as 7) [] h) := rfl
theorem v91 {a0 : Nat} {a1 a2 : Value} : Ev (pG L xs) pM d B rt Q (.invokevirtual 91 :: is) ls (a2 :: a1 :: .ref a0 :: st) h = ((xis h a0 (.inr 9) ∧ (st.map fun v => v.category).sum ≤ 8) ∧ Call (pG L xs) pM d 91 [.ref a0, a1, a2] h (fun v h' => Ev (pG L xs) pM d B rt Q is ls (v.toList ++ st) h')) := e_invokevirtual3 rfl
theorem k91_1 : b91 (Int.toNat (.ofNat 1)) = b91_1 := rfl
theorem k91_2 : b91 (Int.toNat (.ofNat 2)) = b91_2 := rfl
theorem k91_3 : b91 (Int.toNat (.ofNat 3)) = b91_3 := rfl
theorem k91_4 : b91 (Int.toNat (.ofNat 4)) = b91_4 := rfl
theorem k91_5 : b91 (Int.toNat (.ofNat 5)) = b91_5 := rfl
theorem k91_6 : b91 (Int.toNat (.ofNat 6)) = b91_6 := rfl
theorem k91_7 : b91 (Int.toNat (.ofNat 7)) = b91_7 := rfl
theorem k91_8 : b91 (Int.toNat (.ofNat 8)) = b91_8 := rfl
theorem k91_0 : b91 (Int.toNat (.ofNat 0)) = b91_0 := rfl
theorem m92 : Call (pG L xs) pM (d + 1) 92 as h Q = ((xent as).length ≤ 6 ∧ Ev (pG L xs) pM d b92 (some FieldType.int) Q b92_0 (xentry as 6) [] h) := rfl
theorem v92 {a0 : Nat} {a1 a2 a3 a4 : Value} : Ev (pG L xs) pM d B rt Q (.invokevirtual 92 :: is) ls (a4 :: a3 :: a2 :: a1 :: .ref a0 :: st) h = ((xis h a0 (.inr 9) ∧ (st.map fun v => v.category).sum ≤ 8) ∧ Call (pG L xs) pM d 92 [.ref a0, a1, a2, a3, a4] h (fun v h' => Ev (pG L xs) pM d B rt Q is ls (v.toList ++ st) h')) := e_invokevirtual5 rfl
theorem k92_1 : b92 (Int.toNat (.ofNat 1)) = b92_1 := rfl
theorem k92_2 : b92 (Int.toNat (.ofNat 2)) = b92_2 := rfl
theorem k92_3 : b92 (Int.toNat (.ofNat 3)) = b92_3 := rfl
theorem m93 : Call (pG L xs) pM (d + 1) 93 as h Q = ((xent as).length ≤ 7 ∧ Ev (pG L xs) pM d b93 (none) Q b93_0 (xentry as 7) [] h) := rfl
theorem v93 {a0 : Nat} {a1 a2 a3 a4 a5 : Value} : Ev (pG L xs) pM d B rt Q (.invokevirtual 93 :: is) ls (a5 :: a4 :: a3 :: a2 :: a1 :: .ref a0 :: st) h = ((xis h a0 (.inr 9) ∧ (st.map fun v => v.category).sum ≤ 8) ∧ Call (pG L xs) pM d 93 [.ref a0, a1, a2, a3, a4, a5] h (fun v h' => Ev (pG L xs) pM d B rt Q is ls (v.toList ++ st) h')) := e_invokevirtual6 rfl
theorem k93_1 : b93 (Int.toNat (.ofNat 1)) = b93_1 := rfl
theorem k93_2 : b93 (Int.toNat (.ofNat 2)) = b93_2 := rfl
theorem k93_0 : b93 (Int.toNat (.ofNat 0)) = b93_0 := rfl
theorem m94 : Call (pG L xs) pM (d + 1) 94 as h Q = ((xent as).length ≤ 7 ∧ Ev (pG L xs) pM d b94 (none) Q b94_0 (xentry as 7) [] h) := rfl
theorem v94 {a0 : Nat} {a1 a2 a3 : Value} : Ev (pG L xs) pM d B rt Q (.invokevirtual 94 :: is) ls (a3 :: a2 :: a1 :: .ref a0 :: st) h = ((xis h a0 (.inr 9) ∧ (st.map fun v => v.category).sum ≤ 8) ∧ Call (pG L xs) pM d 94 [.ref a0, a1, a2, a3] h (fun v h' => Ev (pG L xs) pM d B rt Q is ls (v.toList ++ st) h')) := e_invokevirtual4 rfl
theorem k94_1 : b94 (Int.toNat (.ofNat 1)) = b94_1 := rfl
theorem k94_2 : b94 (Int.toNat (.ofNat 2)) = b94_2 := rfl
theorem k94_3 : b94 (Int.toNat (.ofNat 3)) = b94_3 := rfl
theorem k94_4 : b94 (Int.toNat (.ofNat 4)) = b94_4 := rfl
theorem k94_0 : b94 (Int.toNat (.ofNat 0)) = b94_0 := rfl
theorem m95 : Call (pG L xs) pM (d + 1) 95 as h Q = ((xent as).length ≤ 1 ∧ Ev (pG L xs) pM d b95 (some FieldType.int) Q b95_0 (xentry as 1) [] h) := rfl
theorem v95 {a0 : Nat}  : Ev (pG L xs) pM d B rt Q (.invokevirtual 95 :: is) ls (.ref a0 :: st) h = ((xis h a0 (.inr 9) ∧ (st.map fun v => v.category).sum ≤ 8) ∧ Call (pG L xs) pM d 95 [.ref a0] h (fun v h' => Ev (pG L xs) pM d B rt Q is ls (v.toList ++ st) h')) := e_invokevirtual1 rfl
theorem m96 : Call (pG L xs) pM (d + 1) 96 as h Q = ((xent as).length ≤ 1 ∧ Ev (pG L xs) pM d b96 (none) Q b96_0 (xentry as 1) [] h) := rfl
theorem v96 {a0 : Nat}  : Ev (pG L xs) pM d B rt Q (.invokespecial 96 :: is) ls (.ref a0 :: st) h = (((st.map fun v => v.category).sum ≤ 8) ∧ Call (pG L xs) pM d 96 [.ref a0] h (fun v h' => Ev (pG L xs) pM d B rt Q is ls (v.toList ++ st) h')) := e_invokespecial1 rfl
theorem m97 : Call (pG L xs) pM (d + 1) 97 as h Q = ((xent as).length ≤ 2 ∧ Ev (pG L xs) pM d b97 (none) Q b97_0 (xentry as 2) [] h) := rfl
theorem v97 {a0 : Nat} {a1 : Value} : Ev (pG L xs) pM d B rt Q (.invokevirtual 97 :: is) ls (a1 :: .ref a0 :: st) h = ((xis h a0 (.inr 10) ∧ (st.map fun v => v.category).sum ≤ 8) ∧ Call (pG L xs) pM d 97 [.ref a0, a1] h (fun v h' => Ev (pG L xs) pM d B rt Q is ls (v.toList ++ st) h')) := e_invokevirtual2 rfl
theorem k97_0 : b97 (Int.toNat (.ofNat 0)) = b97_0 := rfl
theorem m98 : Call (pG L xs) pM (d + 1) 98 as h Q = ((xent as).length ≤ 4 ∧ Ev (pG L xs) pM d b98 (none) Q b98_0 (xentry as 4) [] h) := rfl
theorem v98 {a0 : Nat} {a1 a2 : Value} : Ev (pG L xs) pM d B rt Q (.invokevirtual 98 :: is) ls (a2 :: a1 :: .ref a0 :: st) h = ((xis h a0 (.inr 10) ∧ (st.map fun v => v.category).sum ≤ 8) ∧ Call (pG L xs) pM d 98 [.ref a0, a1, a2] h (fun v h' => Ev (pG L xs) pM d B rt Q is ls (v.toList ++ st) h')) := e_invokevirtual3 rfl
theorem k98_1 : b98 (Int.toNat (.ofNat 1)) = b98_1 := rfl
theorem k98_2 : b98 (Int.toNat (.ofNat 2)) = b98_2 := rfl
theorem k98_3 : b98 (Int.toNat (.ofNat 3)) = b98_3 := rfl
theorem k98_4 : b98 (Int.toNat (.ofNat 4)) = b98_4 := rfl
theorem k98_0 : b98 (Int.toNat (.ofNat 0)) = b98_0 := rfl
theorem m99 : Call (pG L xs) pM (d + 1) 99 as h Q = ((xent as).length ≤ 4 ∧ Ev (pG L xs) pM d b99 (none) Q b99_0 (xentry as 4) [] h) := rfl
theorem v99 {a0 : Nat} {a1 a2 a3 : Value} : Ev (pG L xs) pM d B rt Q (.invokevirtual 99 :: is) ls (a3 :: a2 :: a1 :: .ref a0 :: st) h = ((xis h a0 (.inr 10) ∧ (st.map fun v => v.category).sum ≤ 8) ∧ Call (pG L xs) pM d 99 [.ref a0, a1, a2, a3] h (fun v h' => Ev (pG L xs) pM d B rt Q is ls (v.toList ++ st) h')) := e_invokevirtual4 rfl
theorem k99_1 : b99 (Int.toNat (.ofNat 1)) = b99_1 := rfl
theorem k99_0 : b99 (Int.toNat (.ofNat 0)) = b99_0 := rfl
theorem m100 : Call (pG L xs) pM (d + 1) 100 as h Q = ((xent as).length ≤ 2 ∧ Ev (pG L xs) pM d b100 (some FieldType.boolean) Q b100_0 (xentry as 2) [] h) := rfl
theorem v100 {a0 : Nat} {a1 : Value} : Ev (pG L xs) pM d B rt Q (.invokevirtual 100 :: is) ls (a1 :: .ref a0 :: st) h = ((xis h a0 (.inr 10) ∧ (st.map fun v => v.category).sum ≤ 8) ∧ Call (pG L xs) pM d 100 [.ref a0, a1] h (fun v h' => Ev (pG L xs) pM d B rt Q is ls (v.toList ++ st) h')) := e_invokevirtual2 rfl
theorem k100_1 : b100 (Int.toNat (.ofNat 1)) = b100_1 := rfl
theorem k100_2 : b100 (Int.toNat (.ofNat 2)) = b100_2 := rfl
theorem k100_0 : b100 (Int.toNat (.ofNat 0)) = b100_0 := rfl
theorem m101 : Call (pG L xs) pM (d + 1) 101 as h Q = ((xent as).length ≤ 1 ∧ Ev (pG L xs) pM d b101 (some FieldType.int) Q b101_0 (xentry as 1) [] h) := rfl
theorem v101 {a0 : Nat}  : Ev (pG L xs) pM d B rt Q (.invokevirtual 101 :: is) ls (.ref a0 :: st) h = ((xis h a0 (.inr 10) ∧ (st.map fun v => v.category).sum ≤ 8) ∧ Call (pG L xs) pM d 101 [.ref a0] h (fun v h' => Ev (pG L xs) pM d B rt Q is ls (v.toList ++ st) h')) := e_invokevirtual1 rfl
theorem m102 : Call (pG L xs) pM (d + 1) 102 as h Q = ((xent as).length ≤ 2 ∧ Ev (pG L xs) pM d b102 (some FieldType.int) Q b102_0 (xentry as 2) [] h) := rfl
theorem v102 {a0 : Nat} {a1 : Value} : Ev (pG L xs) pM d B rt Q (.invokevirtual 102 :: is) ls (a1 :: .ref a0 :: st) h = ((xis h a0 (.inr 10) ∧ (st.map fun v => v.category).sum ≤ 8) ∧ Call (pG L xs) pM d 102 [.ref a0, a1] h (fun v h' => Ev (pG L xs) pM d B rt Q is ls (v.toList ++ st) h')) := e_invokevirtual2 rfl
theorem m103 : Call (pG L xs) pM (d + 1) 103 as h Q = ((xent as).length ≤ 2 ∧ Ev (pG L xs) pM d b103 (some FieldType.int) Q b103_0 (xentry as 2) [] h) := rfl
theorem v103 {a0 : Nat} {a1 : Value} : Ev (pG L xs) pM d B rt Q (.invokevirtual 103 :: is) ls (a1 :: .ref a0 :: st) h = ((xis h a0 (.inr 10) ∧ (st.map fun v => v.category).sum ≤ 8) ∧ Call (pG L xs) pM d 103 [.ref a0, a1] h (fun v h' => Ev (pG L xs) pM d B rt Q is ls (v.toList ++ st) h')) := e_invokevirtual2 rfl
theorem k103_0 : b103 (Int.toNat (.ofNat 0)) = b103_0 := rfl
theorem m104 : Call (pG L xs) pM (d + 1) 104 as h Q = ((xent as).length ≤ 2 ∧ Ev (pG L xs) pM d b104 (some FieldType.int) Q b104_0 (xentry as 2) [] h) := rfl
theorem v104 {a0 : Nat} {a1 : Value} : Ev (pG L xs) pM d B rt Q (.invokevirtual 104 :: is) ls (a1 :: .ref a0 :: st) h = ((xis h a0 (.inr 10) ∧ (st.map fun v => v.category).sum ≤ 8) ∧ Call (pG L xs) pM d 104 [.ref a0, a1] h (fun v h' => Ev (pG L xs) pM d B rt Q is ls (v.toList ++ st) h')) := e_invokevirtual2 rfl
theorem m105 : Call (pG L xs) pM (d + 1) 105 as h Q = ((xent as).length ≤ 2 ∧ Ev (pG L xs) pM d b105 (some FieldType.int) Q b105_0 (xentry as 2) [] h) := rfl
theorem v105 {a0 : Nat} {a1 : Value} : Ev (pG L xs) pM d B rt Q (.invokevirtual 105 :: is) ls (a1 :: .ref a0 :: st) h = ((xis h a0 (.inr 10) ∧ (st.map fun v => v.category).sum ≤ 8) ∧ Call (pG L xs) pM d 105 [.ref a0, a1] h (fun v h' => Ev (pG L xs) pM d B rt Q is ls (v.toList ++ st) h')) := e_invokevirtual2 rfl
theorem m106 : Call (pG L xs) pM (d + 1) 106 as h Q = ((xent as).length ≤ 3 ∧ Ev (pG L xs) pM d b106 (none) Q b106_0 (xentry as 3) [] h) := rfl
theorem v106 {a0 : Nat} {a1 a2 : Value} : Ev (pG L xs) pM d B rt Q (.invokevirtual 106 :: is) ls (a2 :: a1 :: .ref a0 :: st) h = ((xis h a0 (.inr 10) ∧ (st.map fun v => v.category).sum ≤ 8) ∧ Call (pG L xs) pM d 106 [.ref a0, a1, a2] h (fun v h' => Ev (pG L xs) pM d B rt Q is ls (v.toList ++ st) h')) := e_invokevirtual3 rfl
theorem m107 : Call (pG L xs) pM (d + 1) 107 as h Q = ((xent as).length ≤ 3 ∧ Ev (pG L xs) pM d b107 (some FieldType.int) Q b107_0 (xentry as 3) [] h) := rfl
theorem v107 {a0 : Nat} {a1 a2 : Value} : Ev (pG L xs) pM d B rt Q (.invokevirtual 107 :: is) ls (a2 :: a1 :: .ref a0 :: st) h = ((xis h a0 (.inr 10) ∧ (st.map fun v => v.category).sum ≤ 8) ∧ Call (pG L xs) pM d 107 [.ref a0, a1, a2] h (fun v h' => Ev (pG L xs) pM d B rt Q is ls (v.toList ++ st) h')) := e_invokevirtual3 rfl
theorem m108 : Call (pG L xs) pM (d + 1) 108 as h Q = ((xent as).length ≤ 4 ∧ Ev (pG L xs) pM d b108 (none) Q b108_0 (xentry as 4) [] h) := rfl
theorem v108 {a0 : Nat} {a1 a2 a3 : Value} : Ev (pG L xs) pM d B rt Q (.invokevirtual 108 :: is) ls (a3 :: a2 :: a1 :: .ref a0 :: st) h = ((xis h a0 (.inr 10) ∧ (st.map fun v => v.category).sum ≤ 8) ∧ Call (pG L xs) pM d 108 [.ref a0, a1, a2, a3] h (fun v h' => Ev (pG L xs) pM d B rt Q is ls (v.toList ++ st) h')) := e_invokevirtual4 rfl
theorem m109 : Call (pG L xs) pM (d + 1) 109 as h Q = ((xent as).length ≤ 5 ∧ Ev (pG L xs) pM d b109 (some FieldType.int) Q b109_0 (xentry as 5) [] h) := rfl
theorem v109 {a0 : Nat} {a1 a2 : Value} : Ev (pG L xs) pM d B rt Q (.invokevirtual 109 :: is) ls (a2 :: a1 :: .ref a0 :: st) h = ((xis h a0 (.inr 10) ∧ (st.map fun v => v.category).sum ≤ 8) ∧ Call (pG L xs) pM d 109 [.ref a0, a1, a2] h (fun v h' => Ev (pG L xs) pM d B rt Q is ls (v.toList ++ st) h')) := e_invokevirtual3 rfl
theorem k109_1 : b109 (Int.toNat (.ofNat 1)) = b109_1 := rfl
theorem k109_2 : b109 (Int.toNat (.ofNat 2)) = b109_2 := rfl
theorem k109_0 : b109 (Int.toNat (.ofNat 0)) = b109_0 := rfl
theorem m110 : Call (pG L xs) pM (d + 1) 110 as h Q = ((xent as).length ≤ 3 ∧ Ev (pG L xs) pM d b110 (some FieldType.boolean) Q b110_0 (xentry as 3) [] h) := rfl
theorem v110 {a0 : Nat} {a1 a2 : Value} : Ev (pG L xs) pM d B rt Q (.invokevirtual 110 :: is) ls (a2 :: a1 :: .ref a0 :: st) h = ((xis h a0 (.inr 10) ∧ (st.map fun v => v.category).sum ≤ 8) ∧ Call (pG L xs) pM d 110 [.ref a0, a1, a2] h (fun v h' => Ev (pG L xs) pM d B rt Q is ls (v.toList ++ st) h')) := e_invokevirtual3 rfl
theorem k110_1 : b110 (Int.toNat (.ofNat 1)) = b110_1 := rfl
theorem k110_2 : b110 (Int.toNat (.ofNat 2)) = b110_2 := rfl
theorem k110_0 : b110 (Int.toNat (.ofNat 0)) = b110_0 := rfl
theorem m111 : Call (pG L xs) pM (d + 1) 111 as h Q = ((xent as).length ≤ 3 ∧ Ev (pG L xs) pM d b111 (some FieldType.boolean) Q b111_0 (xentry as 3) [] h) := rfl
theorem v111 {a0 : Nat} {a1 a2 : Value} : Ev (pG L xs) pM d B rt Q (.invokevirtual 111 :: is) ls (a2 :: a1 :: .ref a0 :: st) h = ((xis h a0 (.inr 10) ∧ (st.map fun v => v.category).sum ≤ 8) ∧ Call (pG L xs) pM d 111 [.ref a0, a1, a2] h (fun v h' => Ev (pG L xs) pM d B rt Q is ls (v.toList ++ st) h')) := e_invokevirtual3 rfl
theorem k111_1 : b111 (Int.toNat (.ofNat 1)) = b111_1 := rfl
theorem k111_2 : b111 (Int.toNat (.ofNat 2)) = b111_2 := rfl
theorem k111_3 : b111 (Int.toNat (.ofNat 3)) = b111_3 := rfl
theorem k111_4 : b111 (Int.toNat (.ofNat 4)) = b111_4 := rfl
theorem k111_5 : b111 (Int.toNat (.ofNat 5)) = b111_5 := rfl
theorem k111_0 : b111 (Int.toNat (.ofNat 0)) = b111_0 := rfl
theorem m112 : Call (pG L xs) pM (d + 1) 112 as h Q = ((xent as).length ≤ 3 ∧ Ev (pG L xs) pM d b112 (some FieldType.boolean) Q b112_0 (xentry as 3) [] h) := rfl
theorem v112 {a0 : Nat} {a1 : Value} : Ev (pG L xs) pM d B rt Q (.invokevirtual 112 :: is) ls (a1 :: .ref a0 :: st) h = ((xis h a0 (.inr 10) ∧ (st.map fun v => v.category).sum ≤ 8) ∧ Call (pG L xs) pM d 112 [.ref a0, a1] h (fun v h' => Ev (pG L xs) pM d B rt Q is ls (v.toList ++ st) h')) := e_invokevirtual2 rfl
theorem k112_1 : b112 (Int.toNat (.ofNat 1)) = b112_1 := rfl
theorem k112_2 : b112 (Int.toNat (.ofNat 2)) = b112_2 := rfl
theorem k112_3 : b112 (Int.toNat (.ofNat 3)) = b112_3 := rfl
theorem k112_0 : b112 (Int.toNat (.ofNat 0)) = b112_0 := rfl
theorem m113 : Call (pG L xs) pM (d + 1) 113 as h Q = ((xent as).length ≤ 3 ∧ Ev (pG L xs) pM d b113 (none) Q b113_0 (xentry as 3) [] h) := rfl
theorem v113 {a0 : Nat} {a1 a2 : Value} : Ev (pG L xs) pM d B rt Q (.invokevirtual 113 :: is) ls (a2 :: a1 :: .ref a0 :: st) h = ((xis h a0 (.inr 10) ∧ (st.map fun v => v.category).sum ≤ 8) ∧ Call (pG L xs) pM d 113 [.ref a0, a1, a2] h (fun v h' => Ev (pG L xs) pM d B rt Q is ls (v.toList ++ st) h')) := e_invokevirtual3 rfl
theorem k113_1 : b113 (Int.toNat (.ofNat 1)) = b113_1 := rfl
theorem m114 : Call (pG L xs) pM (d + 1) 114 as h Q = ((xent as).length ≤ 3 ∧ Ev (pG L xs) pM d b114 (none) Q b114_0 (xentry as 3) [] h) := rfl
theorem v114 {a0 : Nat} {a1 : Value} : Ev (pG L xs) pM d B rt Q (.invokevirtual 114 :: is) ls (a1 :: .ref a0 :: st) h = ((xis h a0 (.inr 10) ∧ (st.map fun v => v.category).sum ≤ 8) ∧ Call (pG L xs) pM d 114 [.ref a0, a1] h (fun v h' => Ev (pG L xs) pM d B rt Q is ls (v.toList ++ st) h')) := e_invokevirtual2 rfl
theorem m115 : Call (pG L xs) pM (d + 1) 115 as h Q = ((xent as).length ≤ 4 ∧ Ev (pG L xs) pM d b115 (none) Q b115_0 (xentry as 4) [] h) := rfl
theorem v115 {a0 : Nat} {a1 a2 a3 : Value} : Ev (pG L xs) pM d B rt Q (.invokevirtual 115 :: is) ls (a3 :: a2 :: a1 :: .ref a0 :: st) h = ((xis h a0 (.inr 10) ∧ (st.map fun v => v.category).sum ≤ 8) ∧ Call (pG L xs) pM d 115 [.ref a0, a1, a2, a3] h (fun v h' => Ev (pG L xs) pM d B rt Q is ls (v.toList ++ st) h')) := e_invokevirtual4 rfl
theorem m116 : Call (pG L xs) pM (d + 1) 116 as h Q = ((xent as).length ≤ 4 ∧ Ev (pG L xs) pM d b116 (some FieldType.int) Q b116_0 (xentry as 4) [] h) := rfl
theorem v116 {a0 : Nat} {a1 : Value} : Ev (pG L xs) pM d B rt Q (.invokevirtual 116 :: is) ls (a1 :: .ref a0 :: st) h = ((xis h a0 (.inr 10) ∧ (st.map fun v => v.category).sum ≤ 8) ∧ Call (pG L xs) pM d 116 [.ref a0, a1] h (fun v h' => Ev (pG L xs) pM d B rt Q is ls (v.toList ++ st) h')) := e_invokevirtual2 rfl
theorem k116_1 : b116 (Int.toNat (.ofNat 1)) = b116_1 := rfl
theorem k116_2 : b116 (Int.toNat (.ofNat 2)) = b116_2 := rfl
theorem k116_3 : b116 (Int.toNat (.ofNat 3)) = b116_3 := rfl
theorem k116_0 : b116 (Int.toNat (.ofNat 0)) = b116_0 := rfl
theorem m117 : Call (pG L xs) pM (d + 1) 117 as h Q = ((xent as).length ≤ 2 ∧ Ev (pG L xs) pM d b117 (none) Q b117_0 (xentry as 2) [] h) := rfl
theorem v117 {a0 : Nat}  : Ev (pG L xs) pM d B rt Q (.invokespecial 117 :: is) ls (.ref a0 :: st) h = (((st.map fun v => v.category).sum ≤ 8) ∧ Call (pG L xs) pM d 117 [.ref a0] h (fun v h' => Ev (pG L xs) pM d B rt Q is ls (v.toList ++ st) h')) := e_invokespecial1 rfl
theorem k117_1 : b117 (Int.toNat (.ofNat 1)) = b117_1 := rfl
theorem k117_2 : b117 (Int.toNat (.ofNat 2)) = b117_2 := rfl
theorem k117_0 : b117 (Int.toNat (.ofNat 0)) = b117_0 := rfl
theorem m118 : Call (pG L xs) pM (d + 1) 118 as h Q = ((xent as).length ≤ 6 ∧ Ev (pG L xs) pM d b118 (some FieldType.int) Q b118_0 (xentry as 6) [] h) := rfl
theorem v118 {a0 : Nat} {a1 a2 a3 a4 a5 : Value} : Ev (pG L xs) pM d B rt Q (.invokevirtual 118 :: is) ls (a5 :: a4 :: a3 :: a2 :: a1 :: .ref a0 :: st) h = ((xis h a0 (.inr 11) ∧ (st.map fun v => v.category).sum ≤ 8) ∧ Call (pG L xs) pM d 118 [.ref a0, a1, a2, a3, a4, a5] h (fun v h' => Ev (pG L xs) pM d B rt Q is ls (v.toList ++ st) h')) := e_invokevirtual6 rfl
theorem k118_1 : b118 (Int.toNat (.ofNat 1)) = b118_1 := rfl
theorem m119 : Call (pG L xs) pM (d + 1) 119 as h Q = ((xent as).length ≤ 2 ∧ Ev (pG L xs) pM d b119 (some FieldType.int) Q b119_0 (xentry as 2) [] h) := rfl
theorem v119 {a0 : Nat} {a1 : Value} : Ev (pG L xs) pM d B rt Q (.invokevirtual 119 :: is) ls (a1 :: .ref a0 :: st) h = ((xis h a0 (.inr 11) ∧ (st.map fun v => v.category).sum ≤ 8) ∧ Call (pG L xs) pM d 119 [.ref a0, a1] h (fun v h' => Ev (pG L xs) pM d B rt Q is ls (v.toList ++ st) h')) := e_invokevirtual2 rfl
theorem k119_1 : b119 (Int.toNat (.ofNat 1)) = b119_1 := rfl
theorem k119_2 : b119 (Int.toNat (.ofNat 2)) = b119_2 := rfl
theorem m120 : Call (pG L xs) pM (d + 1) 120 as h Q = ((xent as).length ≤ 2 ∧ Ev (pG L xs) pM d b120 (some FieldType.int) Q b120_0 (xentry as 2) [] h) := rfl
theorem v120 {a0 : Nat}  : Ev (pG L xs) pM d B rt Q (.invokevirtual 120 :: is) ls (.ref a0 :: st) h = ((xis h a0 (.inr 11) ∧ (st.map fun v => v.category).sum ≤ 8) ∧ Call (pG L xs) pM d 120 [.ref a0] h (fun v h' => Ev (pG L xs) pM d B rt Q is ls (v.toList ++ st) h')) := e_invokevirtual1 rfl
theorem k120_1 : b120 (Int.toNat (.ofNat 1)) = b120_1 := rfl
theorem k120_0 : b120 (Int.toNat (.ofNat 0)) = b120_0 := rfl
theorem m121 : Call (pG L xs) pM (d + 1) 121 as h Q = ((xent as).length ≤ 2 ∧ Ev (pG L xs) pM d b121 (some FieldType.int) Q b121_0 (xentry as 2) [] h) := rfl
theorem v121 {a0 : Nat}  : Ev (pG L xs) pM d B rt Q (.invokevirtual 121 :: is) ls (.ref a0 :: st) h = ((xis h a0 (.inr 11) ∧ (st.map fun v => v.category).sum ≤ 8) ∧ Call (pG L xs) pM d 121 [.ref a0] h (fun v h' => Ev (pG L xs) pM d B rt Q is ls (v.toList ++ st) h')) := e_invokevirtual1 rfl
theorem k121_1 : b121 (Int.toNat (.ofNat 1)) = b121_1 := rfl
theorem k121_2 : b121 (Int.toNat (.ofNat 2)) = b121_2 := rfl
theorem k121_0 : b121 (Int.toNat (.ofNat 0)) = b121_0 := rfl
theorem m122 : Call (pG L xs) pM (d + 1) 122 as h Q = ((xent as).length ≤ 3 ∧ Ev (pG L xs) pM d b122 (some FieldType.int) Q b122_0 (xentry as 3) [] h) := rfl
theorem v122 {a0 : Nat} {a1 : Value} : Ev (pG L xs) pM d B rt Q (.invokevirtual 122 :: is) ls (a1 :: .ref a0 :: st) h = ((xis h a0 (.inr 11) ∧ (st.map fun v => v.category).sum ≤ 8) ∧ Call (pG L xs) pM d 122 [.ref a0, a1] h (fun v h' => Ev (pG L xs) pM d B rt Q is ls (v.toList ++ st) h')) := e_invokevirtual2 rfl
theorem k122_1 : b122 (Int.toNat (.ofNat 1)) = b122_1 := rfl
theorem k122_2 : b122 (Int.toNat (.ofNat 2)) = b122_2 := rfl
theorem m123 : Call (pG L xs) pM (d + 1) 123 as h Q = ((xent as).length ≤ 4 ∧ Ev (pG L xs) pM d b123 (some FieldType.int) Q b123_0 (xentry as 4) [] h) := rfl
theorem v123 {a0 : Nat} {a1 a2 : Value} : Ev (pG L xs) pM d B rt Q (.invokevirtual 123 :: is) ls (a2 :: a1 :: .ref a0 :: st) h = ((xis h a0 (.inr 11) ∧ (st.map fun v => v.category).sum ≤ 8) ∧ Call (pG L xs) pM d 123 [.ref a0, a1, a2] h (fun v h' => Ev (pG L xs) pM d B rt Q is ls (v.toList ++ st) h')) := e_invokevirtual3 rfl
theorem k123_1 : b123 (Int.toNat (.ofNat 1)) = b123_1 := rfl
theorem k123_2 : b123 (Int.toNat (.ofNat 2)) = b123_2 := rfl
theorem k123_3 : b123 (Int.toNat (.ofNat 3)) = b123_3 := rfl
theorem k123_4 : b123 (Int.toNat (.ofNat 4)) = b123_4 := rfl
theorem k123_5 : b123 (Int.toNat (.ofNat 5)) = b123_5 := rfl
theorem k123_6 : b123 (Int.toNat (.ofNat 6)) = b123_6 := rfl
theorem m124 : Call (pG L xs) pM (d + 1) 124 as h Q = ((xent as).length ≤ 3 ∧ Ev (pG L xs) pM d b124 (some FieldType.int) Q b124_0 (xentry as 3) [] h) := rfl
theorem v124 {a0 : Nat} {a1 a2 : Value} : Ev (pG L xs) pM d B rt Q (.invokevirtual 124 :: is) ls (a2 :: a1 :: .ref a0 :: st) h = ((xis h a0 (.inr 11) ∧ (st.map fun v => v.category).sum ≤ 8) ∧ Call (pG L xs) pM d 124 [.ref a0, a1, a2] h (fun v h' => Ev (pG L xs) pM d B rt Q is ls (v.toList ++ st) h')) := e_invokevirtual3 rfl
theorem k124_1 : b124 (Int.toNat (.ofNat 1)) = b124_1 := rfl
theorem k124_2 : b124 (Int.toNat (.ofNat 2)) = b124_2 := rfl
theorem m125 : Call (pG L xs) pM (d + 1) 125 as h Q = ((xent as).length ≤ 3 ∧ Ev (pG L xs) pM d b125 (some FieldType.int) Q b125_0 (xentry as 3) [] h) := rfl
theorem v125 {a0 : Nat} {a1 a2 : Value} : Ev (pG L xs) pM d B rt Q (.invokevirtual 125 :: is) ls (a2 :: a1 :: .ref a0 :: st) h = ((xis h a0 (.inr 11) ∧ (st.map fun v => v.category).sum ≤ 8) ∧ Call (pG L xs) pM d 125 [.ref a0, a1, a2] h (fun v h' => Ev (pG L xs) pM d B rt Q is ls (v.toList ++ st) h')) := e_invokevirtual3 rfl
theorem k125_1 : b125 (Int.toNat (.ofNat 1)) = b125_1 := rfl
theorem k125_2 : b125 (Int.toNat (.ofNat 2)) = b125_2 := rfl
theorem m126 : Call (pG L xs) pM (d + 1) 126 as h Q = ((xent as).length ≤ 2 ∧ Ev (pG L xs) pM d b126 (some FieldType.int) Q b126_0 (xentry as 2) [] h) := rfl
theorem v126 {a0 : Nat}  : Ev (pG L xs) pM d B rt Q (.invokevirtual 126 :: is) ls (.ref a0 :: st) h = ((xis h a0 (.inr 11) ∧ (st.map fun v => v.category).sum ≤ 8) ∧ Call (pG L xs) pM d 126 [.ref a0] h (fun v h' => Ev (pG L xs) pM d B rt Q is ls (v.toList ++ st) h')) := e_invokevirtual1 rfl
theorem k126_1 : b126 (Int.toNat (.ofNat 1)) = b126_1 := rfl
theorem k126_2 : b126 (Int.toNat (.ofNat 2)) = b126_2 := rfl
theorem m127 : Call (pG L xs) pM (d + 1) 127 as h Q = ((xent as).length ≤ 4 ∧ Ev (pG L xs) pM d b127 (some FieldType.int) Q b127_0 (xentry as 4) [] h) := rfl
theorem v127 {a0 : Nat} {a1 a2 : Value} : Ev (pG L xs) pM d B rt Q (.invokevirtual 127 :: is) ls (a2 :: a1 :: .ref a0 :: st) h = ((xis h a0 (.inr 11) ∧ (st.map fun v => v.category).sum ≤ 8) ∧ Call (pG L xs) pM d 127 [.ref a0, a1, a2] h (fun v h' => Ev (pG L xs) pM d B rt Q is ls (v.toList ++ st) h')) := e_invokevirtual3 rfl
theorem k127_1 : b127 (Int.toNat (.ofNat 1)) = b127_1 := rfl
theorem k127_2 : b127 (Int.toNat (.ofNat 2)) = b127_2 := rfl
theorem m128 : Call (pG L xs) pM (d + 1) 128 as h Q = ((xent as).length ≤ 6 ∧ Ev (pG L xs) pM d b128 (some FieldType.int) Q b128_0 (xentry as 6) [] h) := rfl
theorem v128 {a0 : Nat} {a1 a2 a3 : Value} : Ev (pG L xs) pM d B rt Q (.invokevirtual 128 :: is) ls (a3 :: a2 :: a1 :: .ref a0 :: st) h = ((xis h a0 (.inr 11) ∧ (st.map fun v => v.category).sum ≤ 8) ∧ Call (pG L xs) pM d 128 [.ref a0, a1, a2, a3] h (fun v h' => Ev (pG L xs) pM d B rt Q is ls (v.toList ++ st) h')) := e_invokevirtual4 rfl
theorem k128_1 : b128 (Int.toNat (.ofNat 1)) = b128_1 := rfl
theorem k128_2 : b128 (Int.toNat (.ofNat 2)) = b128_2 := rfl
theorem k128_3 : b128 (Int.toNat (.ofNat 3)) = b128_3 := rfl
theorem k128_0 : b128 (Int.toNat (.ofNat 0)) = b128_0 := rfl
theorem m129 : Call (pG L xs) pM (d + 1) 129 as h Q = ((xent as).length ≤ 5 ∧ Ev (pG L xs) pM d b129 (some FieldType.int) Q b129_0 (xentry as 5) [] h) := rfl
theorem v129 {a0 : Nat} {a1 a2 a3 : Value} : Ev (pG L xs) pM d B rt Q (.invokevirtual 129 :: is) ls (a3 :: a2 :: a1 :: .ref a0 :: st) h = ((xis h a0 (.inr 11) ∧ (st.map fun v => v.category).sum ≤ 8) ∧ Call (pG L xs) pM d 129 [.ref a0, a1, a2, a3] h (fun v h' => Ev (pG L xs) pM d B rt Q is ls (v.toList ++ st) h')) := e_invokevirtual4 rfl
theorem k129_1 : b129 (Int.toNat (.ofNat 1)) = b129_1 := rfl
theorem k129_2 : b129 (Int.toNat (.ofNat 2)) = b129_2 := rfl
theorem m130 : Call (pG L xs) pM (d + 1) 130 as h Q = ((xent as).length ≤ 4 ∧ Ev (pG L xs) pM d b130 (some FieldType.int) Q b130_0 (xentry as 4) [] h) := rfl
theorem v130 {a0 : Nat} {a1 : Value} : Ev (pG L xs) pM d B rt Q (.invokevirtual 130 :: is) ls (a1 :: .ref a0 :: st) h = ((xis h a0 (.inr 11) ∧ (st.map fun v => v.category).sum ≤ 8) ∧ Call (pG L xs) pM d 130 [.ref a0, a1] h (fun v h' => Ev (pG L xs) pM d B rt Q is ls (v.toList ++ st) h')) := e_invokevirtual2 rfl
theorem k130_1 : b130 (Int.toNat (.ofNat 1)) = b130_1 := rfl
theorem k130_2 : b130 (Int.toNat (.ofNat 2)) = b130_2 := rfl
theorem k130_0 : b130 (Int.toNat (.ofNat 0)) = b130_0 := rfl
theorem m131 : Call (pG L xs) pM (d + 1) 131 as h Q = ((xent as).length ≤ 1 ∧ Ev (pG L xs) pM d b131 (some FieldType.int) Q b131_0 (xentry as 1) [] h) := rfl
theorem v131 {a0 : Nat}  : Ev (pG L xs) pM d B rt Q (.invokevirtual 131 :: is) ls (.ref a0 :: st) h = ((xis h a0 (.inr 11) ∧ (st.map fun v => v.category).sum ≤ 8) ∧ Call (pG L xs) pM d 131 [.ref a0] h (fun v h' => Ev (pG L xs) pM d B rt Q is ls (v.toList ++ st) h')) := e_invokevirtual1 rfl
theorem k131_1 : b131 (Int.toNat (.ofNat 1)) = b131_1 := rfl
theorem m132 : Call (pG L xs) pM (d + 1) 132 as h Q = ((xent as).length ≤ 5 ∧ Ev (pG L xs) pM d b132 (some FieldType.int) Q b132_0 (xentry as 5) [] h) := rfl
theorem v132 {a0 : Nat} {a1 a2 a3 : Value} : Ev (pG L xs) pM d B rt Q (.invokevirtual 132 :: is) ls (a3 :: a2 :: a1 :: .ref a0 :: st) h = ((xis h a0 (.inr 11) ∧ (st.map fun v => v.category).sum ≤ 8) ∧ Call (pG L xs) pM d 132 [.ref a0, a1, a2, a3] h (fun v h' => Ev (pG L xs) pM d B rt Q is ls (v.toList ++ st) h')) := e_invokevirtual4 rfl
theorem k132_1 : b132 (Int.toNat (.ofNat 1)) = b132_1 := rfl
theorem k132_2 : b132 (Int.toNat (.ofNat 2)) = b132_2 := rfl
theorem k132_3 : b132 (Int.toNat (.ofNat 3)) = b132_3 := rfl
theorem k132_4 : b132 (Int.toNat (.ofNat 4)) = b132_4 := rfl
theorem k132_5 : b132 (Int.toNat (.ofNat 5)) = b132_5 := rfl
theorem k132_0 : b132 (Int.toNat (.ofNat 0)) = b132_0 := rfl
theorem m133 : Call (pG L xs) pM (d + 1) 133 as h Q = ((xent as).length ≤ 1 ∧ Ev (pG L xs) pM d b133 (some FieldType.int) Q b133_0 (xentry as 1) [] h) := rfl
theorem v133 {a0 : Nat}  : Ev (pG L xs) pM d B rt Q (.invokevirtual 133 :: is) ls (.ref a0 :: st) h = ((xis h a0 (.inr 11) ∧ (st.map fun v => v.category).sum ≤ 8) ∧ Call (pG L xs) pM d 133 [.ref a0] h (fun v h' => Ev (pG L xs) pM d B rt Q is ls (v.toList ++ st) h')) := e_invokevirtual1 rfl
theorem k133_1 : b133 (Int.toNat (.ofNat 1)) = b133_1 := rfl
theorem k133_2 : b133 (Int.toNat (.ofNat 2)) = b133_2 := rfl
theorem m134 : Call (pG L xs) pM (d + 1) 134 as h Q = ((xent as).length ≤ 3 ∧ Ev (pG L xs) pM d b134 (some FieldType.int) Q b134_0 (xentry as 3) [] h) := rfl
theorem v134 {a0 : Nat} {a1 : Value} : Ev (pG L xs) pM d B rt Q (.invokevirtual 134 :: is) ls (a1 :: .ref a0 :: st) h = ((xis h a0 (.inr 11) ∧ (st.map fun v => v.category).sum ≤ 8) ∧ Call (pG L xs) pM d 134 [.ref a0, a1] h (fun v h' => Ev (pG L xs) pM d B rt Q is ls (v.toList ++ st) h')) := e_invokevirtual2 rfl
theorem k134_1 : b134 (Int.toNat (.ofNat 1)) = b134_1 := rfl
theorem k134_2 : b134 (Int.toNat (.ofNat 2)) = b134_2 := rfl
theorem k134_3 : b134 (Int.toNat (.ofNat 3)) = b134_3 := rfl
theorem k134_4 : b134 (Int.toNat (.ofNat 4)) = b134_4 := rfl
theorem k134_5 : b134 (Int.toNat (.ofNat 5)) = b134_5 := rfl
theorem k134_6 : b134 (Int.toNat (.ofNat 6)) = b134_6 := rfl
theorem k134_7 : b134 (Int.toNat (.ofNat 7)) = b134_7 := rfl
theorem k134_0 : b134 (Int.toNat (.ofNat 0)) = b134_0 := rfl
theorem m135 : Call (pG L xs) pM (d + 1) 135 as h Q = ((xent as).length ≤ 2 ∧ Ev (pG L xs) pM d b135 (some FieldType.int) Q b135_0 (xentry as 2) [] h) := rfl
theorem v135 {a0 : Nat} {a1 : Value} : Ev (pG L xs) pM d B rt Q (.invokevirtual 135 :: is) ls (a1 :: .ref a0 :: st) h = ((xis h a0 (.inr 11) ∧ (st.map fun v => v.category).sum ≤ 8) ∧ Call (pG L xs) pM d 135 [.ref a0, a1] h (fun v h' => Ev (pG L xs) pM d B rt Q is ls (v.toList ++ st) h')) := e_invokevirtual2 rfl
theorem k135_1 : b135 (Int.toNat (.ofNat 1)) = b135_1 := rfl
theorem k135_2 : b135 (Int.toNat (.ofNat 2)) = b135_2 := rfl
theorem k135_0 : b135 (Int.toNat (.ofNat 0)) = b135_0 := rfl
theorem m136 : Call (pG L xs) pM (d + 1) 136 as h Q = ((xent as).length ≤ 3 ∧ Ev (pG L xs) pM d b136 (some FieldType.int) Q b136_0 (xentry as 3) [] h) := rfl
theorem v136 {a0 : Nat} {a1 : Value} : Ev (pG L xs) pM d B rt Q (.invokevirtual 136 :: is) ls (a1 :: .ref a0 :: st) h = ((xis h a0 (.inr 11) ∧ (st.map fun v => v.category).sum ≤ 8) ∧ Call (pG L xs) pM d 136 [.ref a0, a1] h (fun v h' => Ev (pG L xs) pM d B rt Q is ls (v.toList ++ st) h')) := e_invokevirtual2 rfl
theorem k136_1 : b136 (Int.toNat (.ofNat 1)) = b136_1 := rfl
theorem k136_2 : b136 (Int.toNat (.ofNat 2)) = b136_2 := rfl
theorem k136_3 : b136 (Int.toNat (.ofNat 3)) = b136_3 := rfl
theorem k136_4 : b136 (Int.toNat (.ofNat 4)) = b136_4 := rfl
theorem k136_5 : b136 (Int.toNat (.ofNat 5)) = b136_5 := rfl
theorem k136_0 : b136 (Int.toNat (.ofNat 0)) = b136_0 := rfl
theorem m137 : Call (pG L xs) pM (d + 1) 137 as h Q = ((xent as).length ≤ 2 ∧ Ev (pG L xs) pM d b137 (some FieldType.int) Q b137_0 (xentry as 2) [] h) := rfl
theorem v137 {a0 : Nat} {a1 : Value} : Ev (pG L xs) pM d B rt Q (.invokevirtual 137 :: is) ls (a1 :: .ref a0 :: st) h = ((xis h a0 (.inr 11) ∧ (st.map fun v => v.category).sum ≤ 8) ∧ Call (pG L xs) pM d 137 [.ref a0, a1] h (fun v h' => Ev (pG L xs) pM d B rt Q is ls (v.toList ++ st) h')) := e_invokevirtual2 rfl
theorem k137_1 : b137 (Int.toNat (.ofNat 1)) = b137_1 := rfl
theorem k137_2 : b137 (Int.toNat (.ofNat 2)) = b137_2 := rfl
theorem k137_3 : b137 (Int.toNat (.ofNat 3)) = b137_3 := rfl
theorem k137_4 : b137 (Int.toNat (.ofNat 4)) = b137_4 := rfl
theorem k137_5 : b137 (Int.toNat (.ofNat 5)) = b137_5 := rfl
theorem k137_0 : b137 (Int.toNat (.ofNat 0)) = b137_0 := rfl
theorem m138 : Call (pG L xs) pM (d + 1) 138 as h Q = ((xent as).length ≤ 2 ∧ Ev (pG L xs) pM d b138 (some FieldType.int) Q b138_0 (xentry as 2) [] h) := rfl
theorem v138 {a0 : Nat} {a1 : Value} : Ev (pG L xs) pM d B rt Q (.invokevirtual 138 :: is) ls (a1 :: .ref a0 :: st) h = ((xis h a0 (.inr 11) ∧ (st.map fun v => v.category).sum ≤ 8) ∧ Call (pG L xs) pM d 138 [.ref a0, a1] h (fun v h' => Ev (pG L xs) pM d B rt Q is ls (v.toList ++ st) h')) := e_invokevirtual2 rfl
theorem k138_1 : b138 (Int.toNat (.ofNat 1)) = b138_1 := rfl
theorem k138_2 : b138 (Int.toNat (.ofNat 2)) = b138_2 := rfl
theorem m139 : Call (pG L xs) pM (d + 1) 139 as h Q = ((xent as).length ≤ 1 ∧ Ev (pG L xs) pM d b139 (some FieldType.int) Q b139_0 (xentry as 1) [] h) := rfl
theorem v139 {a0 : Nat}  : Ev (pG L xs) pM d B rt Q (.invokevirtual 139 :: is) ls (.ref a0 :: st) h = ((xis h a0 (.inr 11) ∧ (st.map fun v => v.category).sum ≤ 8) ∧ Call (pG L xs) pM d 139 [.ref a0] h (fun v h' => Ev (pG L xs) pM d B rt Q is ls (v.toList ++ st) h')) := e_invokevirtual1 rfl
theorem k139_1 : b139 (Int.toNat (.ofNat 1)) = b139_1 := rfl
theorem k139_2 : b139 (Int.toNat (.ofNat 2)) = b139_2 := rfl
theorem m140 : Call (pG L xs) pM (d + 1) 140 as h Q = ((xent as).length ≤ 4 ∧ Ev (pG L xs) pM d b140 (some FieldType.int) Q b140_0 (xentry as 4) [] h) := rfl
theorem v140 {a0 : Nat} {a1 a2 : Value} : Ev (pG L xs) pM d B rt Q (.invokevirtual 140 :: is) ls (a2 :: a1 :: .ref a0 :: st) h = ((xis h a0 (.inr 11) ∧ (st.map fun v => v.category).sum ≤ 8) ∧ Call (pG L xs) pM d 140 [.ref a0, a1, a2] h (fun v h' => Ev (pG L xs) pM d B rt Q is ls (v.toList ++ st) h')) := e_invokevirtual3 rfl
theorem k140_1 : b140 (Int.toNat (.ofNat 1)) = b140_1 := rfl
theorem k140_2 : b140 (Int.toNat (.ofNat 2)) = b140_2 := rfl
theorem m141 : Call (pG L xs) pM (d + 1) 141 as h Q = ((xent as).length ≤ 3 ∧ Ev (pG L xs) pM d b141 (some FieldType.int) Q b141_0 (xentry as 3) [] h) := rfl
theorem v141 {a0 : Nat} {a1 a2 : Value} : Ev (pG L xs) pM d B rt Q (.invokevirtual 141 :: is) ls (a2 :: a1 :: .ref a0 :: st) h = ((xis h a0 (.inr 11) ∧ (st.map fun v => v.category).sum ≤ 8) ∧ Call (pG L xs) pM d 141 [.ref a0, a1, a2] h (fun v h' => Ev (pG L xs) pM d B rt Q is ls (v.toList ++ st) h')) := e_invokevirtual3 rfl
theorem k141_1 : b141 (Int.toNat (.ofNat 1)) = b141_1 := rfl
theorem k141_2 : b141 (Int.toNat (.ofNat 2)) = b141_2 := rfl
theorem k141_3 : b141 (Int.toNat (.ofNat 3)) = b141_3 := rfl
theorem k141_4 : b141 (Int.toNat (.ofNat 4)) = b141_4 := rfl
theorem k141_0 : b141 (Int.toNat (.ofNat 0)) = b141_0 := rfl
theorem m142 : Call (pG L xs) pM (d + 1) 142 as h Q = ((xent as).length ≤ 5 ∧ Ev (pG L xs) pM d b142 (some FieldType.int) Q b142_0 (xentry as 5) [] h) := rfl
theorem v142 {a0 : Nat} {a1 a2 a3 a4 : Value} : Ev (pG L xs) pM d B rt Q (.invokevirtual 142 :: is) ls (a4 :: a3 :: a2 :: a1 :: .ref a0 :: st) h = ((xis h a0 (.inr 11) ∧ (st.map fun v => v.category).sum ≤ 8) ∧ Call (pG L xs) pM d 142 [.ref a0, a1, a2, a3, a4] h (fun v h' => Ev (pG L xs) pM d B rt Q is ls (v.toList ++ st) h')) := e_invokevirtual5 rfl
theorem k142_1 : b142 (Int.toNat (.ofNat 1)) = b142_1 := rfl
theorem k142_2 : b142 (Int.toNat (.ofNat 2)) = b142_2 := rfl
theorem k142_0 : b142 (Int.toNat (.ofNat 0)) = b142_0 := rfl
theorem m143 : Call (pG L xs) pM (d + 1) 143 as h Q = ((xent as).length ≤ 4 ∧ Ev (pG L xs) pM d b143 (some FieldType.int) Q b143_0 (xentry as 4) [] h) := rfl
theorem v143 {a0 : Nat} {a1 a2 : Value} : Ev (pG L xs) pM d B rt Q (.invokevirtual 143 :: is) ls (a2 :: a1 :: .ref a0 :: st) h = ((xis h a0 (.inr 11) ∧ (st.map fun v => v.category).sum ≤ 8) ∧ Call (pG L xs) pM d 143 [.ref a0, a1, a2] h (fun v h' => Ev (pG L xs) pM d B rt Q is ls (v.toList ++ st) h')) := e_invokevirtual3 rfl
theorem k143_1 : b143 (Int.toNat (.ofNat 1)) = b143_1 := rfl
theorem k143_2 : b143 (Int.toNat (.ofNat 2)) = b143_2 := rfl
theorem m144 : Call (pG L xs) pM (d + 1) 144 as h Q = ((xent as).length ≤ 4 ∧ Ev (pG L xs) pM d b144 (some FieldType.int) Q b144_0 (xentry as 4) [] h) := rfl
theorem v144 {a0 : Nat} {a1 a2 a3 : Value} : Ev (pG L xs) pM d B rt Q (.invokevirtual 144 :: is) ls (a3 :: a2 :: a1 :: .ref a0 :: st) h = ((xis h a0 (.inr 11) ∧ (st.map fun v => v.category).sum ≤ 8) ∧ Call (pG L xs) pM d 144 [.ref a0, a1, a2, a3] h (fun v h' => Ev (pG L xs) pM d B rt Q is ls (v.toList ++ st) h')) := e_invokevirtual4 rfl
theorem k144_1 : b144 (Int.toNat (.ofNat 1)) = b144_1 := rfl
theorem k144_2 : b144 (Int.toNat (.ofNat 2)) = b144_2 := rfl
theorem k144_3 : b144 (Int.toNat (.ofNat 3)) = b144_3 := rfl
theorem k144_0 : b144 (Int.toNat (.ofNat 0)) = b144_0 := rfl
theorem m145 : Call (pG L xs) pM (d + 1) 145 as h Q = ((xent as).length ≤ 2 ∧ Ev (pG L xs) pM d b145 (some FieldType.int) Q b145_0 (xentry as 2) [] h) := rfl
theorem v145 {a0 : Nat} {a1 : Value} : Ev (pG L xs) pM d B rt Q (.invokevirtual 145 :: is) ls (a1 :: .ref a0 :: st) h = ((xis h a0 (.inr 11) ∧ (st.map fun v => v.category).sum ≤ 8) ∧ Call (pG L xs) pM d 145 [.ref a0, a1] h (fun v h' => Ev (pG L xs) pM d B rt Q is ls (v.toList ++ st) h')) := e_invokevirtual2 rfl
theorem k145_1 : b145 (Int.toNat (.ofNat 1)) = b145_1 := rfl
theorem k145_2 : b145 (Int.toNat (.ofNat 2)) = b145_2 := rfl
theorem k145_3 : b145 (Int.toNat (.ofNat 3)) = b145_3 := rfl
theorem k145_4 : b145 (Int.toNat (.ofNat 4)) = b145_4 := rfl
theorem k145_0 : b145 (Int.toNat (.ofNat 0)) = b145_0 := rfl
theorem m146 : Call (pG L xs) pM (d + 1) 146 as h Q = ((xent as).length ≤ 2 ∧ Ev (pG L xs) pM d b146 (some FieldType.int) Q b146_0 (xentry as 2) [] h) := rfl
theorem v146 {a0 : Nat} {a1 : Value} : Ev (pG L xs) pM d B rt Q (.invokevirtual 146 :: is) ls (a1 :: .ref a0 :: st) h = ((xis h a0 (.inr 11) ∧ (st.map fun v => v.category).sum ≤ 8) ∧ Call (pG L xs) pM d 146 [.ref a0, a1] h (fun v h' => Ev (pG L xs) pM d B rt Q is ls (v.toList ++ st) h')) := e_invokevirtual2 rfl
theorem k146_1 : b146 (Int.toNat (.ofNat 1)) = b146_1 := rfl
theorem k146_2 : b146 (Int.toNat (.ofNat 2)) = b146_2 := rfl
theorem k146_0 : b146 (Int.toNat (.ofNat 0)) = b146_0 := rfl
theorem m147 : Call (pG L xs) pM (d + 1) 147 as h Q = ((xent as).length ≤ 3 ∧ Ev (pG L xs) pM d b147 (some FieldType.int) Q b147_0 (xentry as 3) [] h) := rfl
theorem v147 {a0 : Nat} {a1 : Value} : Ev (pG L xs) pM d B rt Q (.invokevirtual 147 :: is) ls (a1 :: .ref a0 :: st) h = ((xis h a0 (.inr 11) ∧ (st.map fun v => v.category).sum ≤ 8) ∧ Call (pG L xs) pM d 147 [.ref a0, a1] h (fun v h' => Ev (pG L xs) pM d B rt Q is ls (v.toList ++ st) h')) := e_invokevirtual2 rfl
theorem k147_1 : b147 (Int.toNat (.ofNat 1)) = b147_1 := rfl
theorem m148 : Call (pG L xs) pM (d + 1) 148 as h Q = ((xent as).length ≤ 5 ∧ Ev (pG L xs) pM d b148 (some FieldType.int) Q b148_0 (xentry as 5) [] h) := rfl
theorem v148 {a0 : Nat} {a1 a2 a3 a4 : Value} : Ev (pG L xs) pM d B rt Q (.invokevirtual 148 :: is) ls (a4 :: a3 :: a2 :: a1 :: .ref a0 :: st) h = ((xis h a0 (.inr 11) ∧ (st.map fun v => v.category).sum ≤ 8) ∧ Call (pG L xs) pM d 148 [.ref a0, a1, a2, a3, a4] h (fun v h' => Ev (pG L xs) pM d B rt Q is ls (v.toList ++ st) h')) := e_invokevirtual5 rfl
theorem k148_1 : b148 (Int.toNat (.ofNat 1)) = b148_1 := rfl
theorem k148_2 : b148 (Int.toNat (.ofNat 2)) = b148_2 := rfl
theorem k148_3 : b148 (Int.toNat (.ofNat 3)) = b148_3 := rfl
theorem k148_4 : b148 (Int.toNat (.ofNat 4)) = b148_4 := rfl
theorem k148_5 : b148 (Int.toNat (.ofNat 5)) = b148_5 := rfl
theorem k148_6 : b148 (Int.toNat (.ofNat 6)) = b148_6 := rfl
theorem k148_0 : b148 (Int.toNat (.ofNat 0)) = b148_0 := rfl
theorem m149 : Call (pG L xs) pM (d + 1) 149 as h Q = ((xent as).length ≤ 3 ∧ Ev (pG L xs) pM d b149 (some FieldType.int) Q b149_0 (xentry as 3) [] h) := rfl
theorem v149 {a0 : Nat} {a1 : Value} : Ev (pG L xs) pM d B rt Q (.invokevirtual 149 :: is) ls (a1 :: .ref a0 :: st) h = ((xis h a0 (.inr 11) ∧ (st.map fun v => v.category).sum ≤ 8) ∧ Call (pG L xs) pM d 149 [.ref a0, a1] h (fun v h' => Ev (pG L xs) pM d B rt Q is ls (v.toList ++ st) h')) := e_invokevirtual2 rfl
theorem k149_1 : b149 (Int.toNat (.ofNat 1)) = b149_1 := rfl
theorem k149_2 : b149 (Int.toNat (.ofNat 2)) = b149_2 := rfl
theorem k149_3 : b149 (Int.toNat (.ofNat 3)) = b149_3 := rfl
theorem k149_4 : b149 (Int.toNat (.ofNat 4)) = b149_4 := rfl
theorem k149_5 : b149 (Int.toNat (.ofNat 5)) = b149_5 := rfl
theorem k149_6 : b149 (Int.toNat (.ofNat 6)) = b149_6 := rfl
theorem k149_7 : b149 (Int.toNat (.ofNat 7)) = b149_7 := rfl
theorem k149_8 : b149 (Int.toNat (.ofNat 8)) = b149_8 := rfl
theorem k149_9 : b149 (Int.toNat (.ofNat 9)) = b149_9 := rfl
theorem k149_10 : b149 (Int.toNat (.ofNat 10)) = b149_10 := rfl
theorem k149_11 : b149 (Int.toNat (.ofNat 11)) = b149_11 := rfl
theorem k149_12 : b149 (Int.toNat (.ofNat 12)) = b149_12 := rfl
theorem k149_13 : b149 (Int.toNat (.ofNat 13)) = b149_13 := rfl
theorem m150 : Call (pG L xs) pM (d + 1) 150 as h Q = ((xent as).length ≤ 2 ∧ Ev (pG L xs) pM d b150 (some FieldType.int) Q b150_0 (xentry as 2) [] h) := rfl
theorem v150 {a0 : Nat} {a1 : Value} : Ev (pG L xs) pM d B rt Q (.invokevirtual 150 :: is) ls (a1 :: .ref a0 :: st) h = ((xis h a0 (.inr 11) ∧ (st.map fun v => v.category).sum ≤ 8) ∧ Call (pG L xs) pM d 150 [.ref a0, a1] h (fun v h' => Ev (pG L xs) pM d B rt Q is ls (v.toList ++ st) h')) := e_invokevirtual2 rfl
theorem k150_1 : b150 (Int.toNat (.ofNat 1)) = b150_1 := rfl
theorem k150_0 : b150 (Int.toNat (.ofNat 0)) = b150_0 := rfl
theorem m151 : Call (pG L xs) pM (d + 1) 151 as h Q = ((xent as).length ≤ 2 ∧ Ev (pG L xs) pM d b151 (some FieldType.int) Q b151_0 (xentry as 2) [] h) := rfl
theorem v151 {a0 : Nat} {a1 : Value} : Ev (pG L xs) pM d B rt Q (.invokevirtual 151 :: is) ls (a1 :: .ref a0 :: st) h = ((xis h a0 (.inr 11) ∧ (st.map fun v => v.category).sum ≤ 8) ∧ Call (pG L xs) pM d 151 [.ref a0, a1] h (fun v h' => Ev (pG L xs) pM d B rt Q is ls (v.toList ++ st) h')) := e_invokevirtual2 rfl
theorem k151_1 : b151 (Int.toNat (.ofNat 1)) = b151_1 := rfl
theorem k151_2 : b151 (Int.toNat (.ofNat 2)) = b151_2 := rfl
theorem k151_0 : b151 (Int.toNat (.ofNat 0)) = b151_0 := rfl
theorem m152 : Call (pG L xs) pM (d + 1) 152 as h Q = ((xent as).length ≤ 2 ∧ Ev (pG L xs) pM d b152 (some (FieldType.object "RankFord$Rule")) Q b152_0 (xentry as 2) [] h) := rfl
theorem v152 {a0 : Nat}  : Ev (pG L xs) pM d B rt Q (.invokevirtual 152 :: is) ls (.ref a0 :: st) h = ((xis h a0 (.inr 11) ∧ (st.map fun v => v.category).sum ≤ 8) ∧ Call (pG L xs) pM d 152 [.ref a0] h (fun v h' => Ev (pG L xs) pM d B rt Q is ls (v.toList ++ st) h')) := e_invokevirtual1 rfl
theorem k152_1 : b152 (Int.toNat (.ofNat 1)) = b152_1 := rfl
theorem k152_2 : b152 (Int.toNat (.ofNat 2)) = b152_2 := rfl
theorem m153 : Call (pG L xs) pM (d + 1) 153 as h Q = ((xent as).length ≤ 3 ∧ Ev (pG L xs) pM d b153 (some FieldType.boolean) Q b153_0 (xentry as 3) [] h) := rfl
theorem v153 {a0 : Nat} {a1 a2 : Value} : Ev (pG L xs) pM d B rt Q (.invokevirtual 153 :: is) ls (a2 :: a1 :: .ref a0 :: st) h = ((xis h a0 (.inr 11) ∧ (st.map fun v => v.category).sum ≤ 8) ∧ Call (pG L xs) pM d 153 [.ref a0, a1, a2] h (fun v h' => Ev (pG L xs) pM d B rt Q is ls (v.toList ++ st) h')) := e_invokevirtual3 rfl
theorem k153_1 : b153 (Int.toNat (.ofNat 1)) = b153_1 := rfl
theorem k153_2 : b153 (Int.toNat (.ofNat 2)) = b153_2 := rfl
theorem k153_0 : b153 (Int.toNat (.ofNat 0)) = b153_0 := rfl
theorem m154 : Call (pG L xs) pM (d + 1) 154 as h Q = ((xent as).length ≤ 3 ∧ Ev (pG L xs) pM d b154 (some FieldType.boolean) Q b154_0 (xentry as 3) [] h) := rfl
theorem v154 {a0 : Nat} {a1 a2 : Value} : Ev (pG L xs) pM d B rt Q (.invokevirtual 154 :: is) ls (a2 :: a1 :: .ref a0 :: st) h = ((xis h a0 (.inr 11) ∧ (st.map fun v => v.category).sum ≤ 8) ∧ Call (pG L xs) pM d 154 [.ref a0, a1, a2] h (fun v h' => Ev (pG L xs) pM d B rt Q is ls (v.toList ++ st) h')) := e_invokevirtual3 rfl
theorem k154_1 : b154 (Int.toNat (.ofNat 1)) = b154_1 := rfl
theorem k154_2 : b154 (Int.toNat (.ofNat 2)) = b154_2 := rfl
theorem k154_0 : b154 (Int.toNat (.ofNat 0)) = b154_0 := rfl
theorem m155 : Call (pG L xs) pM (d + 1) 155 as h Q = ((xent as).length ≤ 3 ∧ Ev (pG L xs) pM d b155 (some FieldType.boolean) Q b155_0 (xentry as 3) [] h) := rfl
theorem v155 {a0 a1 a2 : Value} : Ev (pG L xs) pM d B rt Q (.invokestatic 155 :: is) ls (a2 :: a1 :: a0 :: st) h = (((st.map fun v => v.category).sum ≤ 8) ∧ Call (pG L xs) pM d 155 [a0, a1, a2] h (fun v h' => Ev (pG L xs) pM d B rt Q is ls (v.toList ++ st) h')) := e_invokestatic3 rfl
theorem k155_1 : b155 (Int.toNat (.ofNat 1)) = b155_1 := rfl
theorem k155_2 : b155 (Int.toNat (.ofNat 2)) = b155_2 := rfl
theorem k155_0 : b155 (Int.toNat (.ofNat 0)) = b155_0 := rfl
theorem m156 : Call (pG L xs) pM (d + 1) 156 as h Q = ((xent as).length ≤ 1 ∧ Ev (pG L xs) pM d b156 (none) Q b156_0 (xentry as 1) [] h) := rfl
theorem v156 {a0 : Nat}  : Ev (pG L xs) pM d B rt Q (.invokespecial 156 :: is) ls (.ref a0 :: st) h = (((st.map fun v => v.category).sum ≤ 8) ∧ Call (pG L xs) pM d 156 [.ref a0] h (fun v h' => Ev (pG L xs) pM d B rt Q is ls (v.toList ++ st) h')) := e_invokespecial1 rfl
theorem m157 : Call (pG L xs) pM (d + 1) 157 as h Q = ((xent as).length ≤ 6 ∧ Ev (pG L xs) pM d b157 (some FieldType.boolean) Q b157_0 (xentry as 6) [] h) := rfl
theorem v157 {a0 a1 a2 : Value} : Ev (pG L xs) pM d B rt Q (.invokestatic 157 :: is) ls (a2 :: a1 :: a0 :: st) h = (((st.map fun v => v.category).sum ≤ 8) ∧ Call (pG L xs) pM d 157 [a0, a1, a2] h (fun v h' => Ev (pG L xs) pM d B rt Q is ls (v.toList ++ st) h')) := e_invokestatic3 rfl
theorem k157_1 : b157 (Int.toNat (.ofNat 1)) = b157_1 := rfl
theorem k157_2 : b157 (Int.toNat (.ofNat 2)) = b157_2 := rfl
theorem k157_0 : b157 (Int.toNat (.ofNat 0)) = b157_0 := rfl
theorem m158 : Call (pG L xs) pM (d + 1) 158 as h Q = ((xent as).length ≤ 2 ∧ Ev (pG L xs) pM d b158 (some FieldType.boolean) Q b158_0 (xentry as 2) [] h) := rfl
theorem v158 {a0 a1 : Value} : Ev (pG L xs) pM d B rt Q (.invokestatic 158 :: is) ls (a1 :: a0 :: st) h = (((st.map fun v => v.category).sum ≤ 8) ∧ Call (pG L xs) pM d 158 [a0, a1] h (fun v h' => Ev (pG L xs) pM d B rt Q is ls (v.toList ++ st) h')) := e_invokestatic2 rfl
theorem k158_1 : b158 (Int.toNat (.ofNat 1)) = b158_1 := rfl
theorem k158_2 : b158 (Int.toNat (.ofNat 2)) = b158_2 := rfl
theorem k158_0 : b158 (Int.toNat (.ofNat 0)) = b158_0 := rfl
theorem m159 : Call (pG L xs) pM (d + 1) 159 as h Q = ((xent as).length ≤ 3 ∧ Ev (pG L xs) pM d b159 (some FieldType.int) Q b159_0 (xentry as 3) [] h) := rfl
theorem v159 {a0 : Value} : Ev (pG L xs) pM d B rt Q (.invokestatic 159 :: is) ls (a0 :: st) h = (((st.map fun v => v.category).sum ≤ 8) ∧ Call (pG L xs) pM d 159 [a0] h (fun v h' => Ev (pG L xs) pM d B rt Q is ls (v.toList ++ st) h')) := e_invokestatic1 rfl
theorem k159_1 : b159 (Int.toNat (.ofNat 1)) = b159_1 := rfl
theorem k159_2 : b159 (Int.toNat (.ofNat 2)) = b159_2 := rfl
theorem k159_0 : b159 (Int.toNat (.ofNat 0)) = b159_0 := rfl
theorem m160 : Call (pG L xs) pM (d + 1) 160 as h Q = ((xent as).length ≤ 2 ∧ Ev (pG L xs) pM d b160 (some FieldType.int) Q b160_0 (xentry as 2) [] h) := rfl
theorem v160 {a0 a1 : Value} : Ev (pG L xs) pM d B rt Q (.invokestatic 160 :: is) ls (a1 :: a0 :: st) h = (((st.map fun v => v.category).sum ≤ 8) ∧ Call (pG L xs) pM d 160 [a0, a1] h (fun v h' => Ev (pG L xs) pM d B rt Q is ls (v.toList ++ st) h')) := e_invokestatic2 rfl
theorem k160_1 : b160 (Int.toNat (.ofNat 1)) = b160_1 := rfl
theorem k160_2 : b160 (Int.toNat (.ofNat 2)) = b160_2 := rfl
theorem m161 : Call (pG L xs) pM (d + 1) 161 as h Q = ((xent as).length ≤ 3 ∧ Ev (pG L xs) pM d b161 (none) Q b161_0 (xentry as 3) [] h) := rfl
theorem v161 {a0 : Nat} {a1 : Value} : Ev (pG L xs) pM d B rt Q (.invokevirtual 161 :: is) ls (a1 :: .ref a0 :: st) h = ((xis h a0 (.inr 12) ∧ (st.map fun v => v.category).sum ≤ 8) ∧ Call (pG L xs) pM d 161 [.ref a0, a1] h (fun v h' => Ev (pG L xs) pM d B rt Q is ls (v.toList ++ st) h')) := e_invokevirtual2 rfl
theorem k161_1 : b161 (Int.toNat (.ofNat 1)) = b161_1 := rfl
theorem k161_2 : b161 (Int.toNat (.ofNat 2)) = b161_2 := rfl
theorem m162 : Call (pG L xs) pM (d + 1) 162 as h Q = ((xent as).length ≤ 6 ∧ Ev (pG L xs) pM d b162 (some FieldType.int) Q b162_0 (xentry as 6) [] h) := rfl
theorem v162 {a0 : Nat} {a1 a2 a3 a4 a5 : Value} : Ev (pG L xs) pM d B rt Q (.invokevirtual 162 :: is) ls (a5 :: a4 :: a3 :: a2 :: a1 :: .ref a0 :: st) h = ((xis h a0 (.inr 12) ∧ (st.map fun v => v.category).sum ≤ 8) ∧ Call (pG L xs) pM d 162 [.ref a0, a1, a2, a3, a4, a5] h (fun v h' => Ev (pG L xs) pM d B rt Q is ls (v.toList ++ st) h')) := e_invokevirtual6 rfl
theorem k162_1 : b162 (Int.toNat (.ofNat 1)) = b162_1 := rfl
theorem m163 : Call (pG L xs) pM (d + 1) 163 as h Q = ((xent as).length ≤ 2 ∧ Ev (pG L xs) pM d b163 (some FieldType.int) Q b163_0 (xentry as 2) [] h) := rfl
theorem v163 {a0 : Nat} {a1 : Value} : Ev (pG L xs) pM d B rt Q (.invokevirtual 163 :: is) ls (a1 :: .ref a0 :: st) h = ((xis h a0 (.inr 12) ∧ (st.map fun v => v.category).sum ≤ 8) ∧ Call (pG L xs) pM d 163 [.ref a0, a1] h (fun v h' => Ev (pG L xs) pM d B rt Q is ls (v.toList ++ st) h')) := e_invokevirtual2 rfl
theorem k163_1 : b163 (Int.toNat (.ofNat 1)) = b163_1 := rfl
theorem k163_2 : b163 (Int.toNat (.ofNat 2)) = b163_2 := rfl
theorem m164 : Call (pG L xs) pM (d + 1) 164 as h Q = ((xent as).length ≤ 3 ∧ Ev (pG L xs) pM d b164 (some FieldType.boolean) Q b164_0 (xentry as 3) [] h) := rfl
theorem v164 {a0 : Nat} {a1 a2 : Value} : Ev (pG L xs) pM d B rt Q (.invokevirtual 164 :: is) ls (a2 :: a1 :: .ref a0 :: st) h = ((xis h a0 (.inr 12) ∧ (st.map fun v => v.category).sum ≤ 8) ∧ Call (pG L xs) pM d 164 [.ref a0, a1, a2] h (fun v h' => Ev (pG L xs) pM d B rt Q is ls (v.toList ++ st) h')) := e_invokevirtual3 rfl
theorem k164_1 : b164 (Int.toNat (.ofNat 1)) = b164_1 := rfl
theorem k164_0 : b164 (Int.toNat (.ofNat 0)) = b164_0 := rfl
theorem m165 : Call (pG L xs) pM (d + 1) 165 as h Q = ((xent as).length ≤ 1 ∧ Ev (pG L xs) pM d b165 (some FieldType.int) Q b165_0 (xentry as 1) [] h) := rfl
theorem v165 {a0 : Nat}  : Ev (pG L xs) pM d B rt Q (.invokevirtual 165 :: is) ls (.ref a0 :: st) h = ((xis h a0 (.inr 12) ∧ (st.map fun v => v.category).sum ≤ 8) ∧ Call (pG L xs) pM d 165 [.ref a0] h (fun v h' => Ev (pG L xs) pM d B rt Q is ls (v.toList ++ st) h')) := e_invokevirtual1 rfl
theorem k165_1 : b165 (Int.toNat (.ofNat 1)) = b165_1 := rfl
theorem k165_2 : b165 (Int.toNat (.ofNat 2)) = b165_2 := rfl
theorem k165_3 : b165 (Int.toNat (.ofNat 3)) = b165_3 := rfl
theorem k165_0 : b165 (Int.toNat (.ofNat 0)) = b165_0 := rfl
theorem m166 : Call (pG L xs) pM (d + 1) 166 as h Q = ((xent as).length ≤ 2 ∧ Ev (pG L xs) pM d b166 (some FieldType.boolean) Q b166_0 (xentry as 2) [] h) := rfl
theorem v166 {a0 : Nat} {a1 : Value} : Ev (pG L xs) pM d B rt Q (.invokevirtual 166 :: is) ls (a1 :: .ref a0 :: st) h = ((xis h a0 (.inr 12) ∧ (st.map fun v => v.category).sum ≤ 8) ∧ Call (pG L xs) pM d 166 [.ref a0, a1] h (fun v h' => Ev (pG L xs) pM d B rt Q is ls (v.toList ++ st) h')) := e_invokevirtual2 rfl
theorem k166_1 : b166 (Int.toNat (.ofNat 1)) = b166_1 := rfl
theorem k166_2 : b166 (Int.toNat (.ofNat 2)) = b166_2 := rfl
theorem k166_0 : b166 (Int.toNat (.ofNat 0)) = b166_0 := rfl
theorem m167 : Call (pG L xs) pM (d + 1) 167 as h Q = ((xent as).length ≤ 2 ∧ Ev (pG L xs) pM d b167 (some FieldType.boolean) Q b167_0 (xentry as 2) [] h) := rfl
theorem v167 {a0 : Nat} {a1 : Value} : Ev (pG L xs) pM d B rt Q (.invokevirtual 167 :: is) ls (a1 :: .ref a0 :: st) h = ((xis h a0 (.inr 12) ∧ (st.map fun v => v.category).sum ≤ 8) ∧ Call (pG L xs) pM d 167 [.ref a0, a1] h (fun v h' => Ev (pG L xs) pM d B rt Q is ls (v.toList ++ st) h')) := e_invokevirtual2 rfl
theorem k167_1 : b167 (Int.toNat (.ofNat 1)) = b167_1 := rfl
theorem k167_2 : b167 (Int.toNat (.ofNat 2)) = b167_2 := rfl
theorem k167_0 : b167 (Int.toNat (.ofNat 0)) = b167_0 := rfl
theorem m168 : Call (pG L xs) pM (d + 1) 168 as h Q = ((xent as).length ≤ 6 ∧ Ev (pG L xs) pM d b168 (some FieldType.boolean) Q b168_0 (xentry as 6) [] h) := rfl
theorem v168 {a0 : Nat} {a1 : Value} : Ev (pG L xs) pM d B rt Q (.invokevirtual 168 :: is) ls (a1 :: .ref a0 :: st) h = ((xis h a0 (.inr 12) ∧ (st.map fun v => v.category).sum ≤ 8) ∧ Call (pG L xs) pM d 168 [.ref a0, a1] h (fun v h' => Ev (pG L xs) pM d B rt Q is ls (v.toList ++ st) h')) := e_invokevirtual2 rfl
theorem k168_1 : b168 (Int.toNat (.ofNat 1)) = b168_1 := rfl
theorem k168_2 : b168 (Int.toNat (.ofNat 2)) = b168_2 := rfl
theorem k168_3 : b168 (Int.toNat (.ofNat 3)) = b168_3 := rfl
theorem k168_4 : b168 (Int.toNat (.ofNat 4)) = b168_4 := rfl
theorem k168_5 : b168 (Int.toNat (.ofNat 5)) = b168_5 := rfl
theorem k168_0 : b168 (Int.toNat (.ofNat 0)) = b168_0 := rfl
theorem m169 : Call (pG L xs) pM (d + 1) 169 as h Q = ((xent as).length ≤ 1 ∧ Ev (pG L xs) pM d b169 (none) Q b169_0 (xentry as 1) [] h) := rfl
theorem v169 {a0 : Nat}  : Ev (pG L xs) pM d B rt Q (.invokevirtual 169 :: is) ls (.ref a0 :: st) h = ((xis h a0 (.inr 12) ∧ (st.map fun v => v.category).sum ≤ 8) ∧ Call (pG L xs) pM d 169 [.ref a0] h (fun v h' => Ev (pG L xs) pM d B rt Q is ls (v.toList ++ st) h')) := e_invokevirtual1 rfl
theorem k169_1 : b169 (Int.toNat (.ofNat 1)) = b169_1 := rfl
theorem k169_0 : b169 (Int.toNat (.ofNat 0)) = b169_0 := rfl
theorem m170 : Call (pG L xs) pM (d + 1) 170 as h Q = ((xent as).length ≤ 3 ∧ Ev (pG L xs) pM d b170 (some FieldType.boolean) Q b170_0 (xentry as 3) [] h) := rfl
theorem v170 {a0 : Nat} {a1 : Value} : Ev (pG L xs) pM d B rt Q (.invokevirtual 170 :: is) ls (a1 :: .ref a0 :: st) h = ((xis h a0 (.inr 12) ∧ (st.map fun v => v.category).sum ≤ 8) ∧ Call (pG L xs) pM d 170 [.ref a0, a1] h (fun v h' => Ev (pG L xs) pM d B rt Q is ls (v.toList ++ st) h')) := e_invokevirtual2 rfl
theorem k170_1 : b170 (Int.toNat (.ofNat 1)) = b170_1 := rfl
theorem k170_0 : b170 (Int.toNat (.ofNat 0)) = b170_0 := rfl
theorem m171 : Call (pG L xs) pM (d + 1) 171 as h Q = ((xent as).length ≤ 5 ∧ Ev (pG L xs) pM d b171 (some FieldType.boolean) Q b171_0 (xentry as 5) [] h) := rfl
theorem v171 {a0 : Nat} {a1 a2 : Value} : Ev (pG L xs) pM d B rt Q (.invokevirtual 171 :: is) ls (a2 :: a1 :: .ref a0 :: st) h = ((xis h a0 (.inr 12) ∧ (st.map fun v => v.category).sum ≤ 8) ∧ Call (pG L xs) pM d 171 [.ref a0, a1, a2] h (fun v h' => Ev (pG L xs) pM d B rt Q is ls (v.toList ++ st) h')) := e_invokevirtual3 rfl
theorem k171_1 : b171 (Int.toNat (.ofNat 1)) = b171_1 := rfl
theorem k171_2 : b171 (Int.toNat (.ofNat 2)) = b171_2 := rfl
theorem k171_3 : b171 (Int.toNat (.ofNat 3)) = b171_3 := rfl
theorem k171_4 : b171 (Int.toNat (.ofNat 4)) = b171_4 := rfl
theorem k171_5 : b171 (Int.toNat (.ofNat 5)) = b171_5 := rfl
theorem k171_6 : b171 (Int.toNat (.ofNat 6)) = b171_6 := rfl
theorem k171_7 : b171 (Int.toNat (.ofNat 7)) = b171_7 := rfl
theorem k171_8 : b171 (Int.toNat (.ofNat 8)) = b171_8 := rfl
theorem k171_0 : b171 (Int.toNat (.ofNat 0)) = b171_0 := rfl
theorem m172 : Call (pG L xs) pM (d + 1) 172 as h Q = ((xent as).length ≤ 1 ∧ Ev (pG L xs) pM d b172 (some FieldType.int) Q b172_0 (xentry as 1) [] h) := rfl
theorem v172 {a0 : Nat}  : Ev (pG L xs) pM d B rt Q (.invokevirtual 172 :: is) ls (.ref a0 :: st) h = ((xis h a0 (.inr 12) ∧ (st.map fun v => v.category).sum ≤ 8) ∧ Call (pG L xs) pM d 172 [.ref a0] h (fun v h' => Ev (pG L xs) pM d B rt Q is ls (v.toList ++ st) h')) := e_invokevirtual1 rfl
theorem k172_1 : b172 (Int.toNat (.ofNat 1)) = b172_1 := rfl
theorem k172_2 : b172 (Int.toNat (.ofNat 2)) = b172_2 := rfl
theorem k172_3 : b172 (Int.toNat (.ofNat 3)) = b172_3 := rfl
theorem k172_4 : b172 (Int.toNat (.ofNat 4)) = b172_4 := rfl
theorem k172_5 : b172 (Int.toNat (.ofNat 5)) = b172_5 := rfl
theorem k172_6 : b172 (Int.toNat (.ofNat 6)) = b172_6 := rfl
theorem k172_7 : b172 (Int.toNat (.ofNat 7)) = b172_7 := rfl
theorem k172_8 : b172 (Int.toNat (.ofNat 8)) = b172_8 := rfl
theorem k172_9 : b172 (Int.toNat (.ofNat 9)) = b172_9 := rfl
theorem k172_10 : b172 (Int.toNat (.ofNat 10)) = b172_10 := rfl
theorem k172_11 : b172 (Int.toNat (.ofNat 11)) = b172_11 := rfl
theorem k172_12 : b172 (Int.toNat (.ofNat 12)) = b172_12 := rfl
theorem k172_13 : b172 (Int.toNat (.ofNat 13)) = b172_13 := rfl
theorem k172_0 : b172 (Int.toNat (.ofNat 0)) = b172_0 := rfl
theorem m173 : Call (pG L xs) pM (d + 1) 173 as h Q = ((xent as).length ≤ 3 ∧ Ev (pG L xs) pM d b173 (none) Q b173_0 (xentry as 3) [] h) := rfl
theorem v173 {a0 : Nat} {a1 a2 : Value} : Ev (pG L xs) pM d B rt Q (.invokevirtual 173 :: is) ls (a2 :: a1 :: .ref a0 :: st) h = ((xis h a0 (.inr 12) ∧ (st.map fun v => v.category).sum ≤ 8) ∧ Call (pG L xs) pM d 173 [.ref a0, a1, a2] h (fun v h' => Ev (pG L xs) pM d B rt Q is ls (v.toList ++ st) h')) := e_invokevirtual3 rfl
theorem m174 : Call (pG L xs) pM (d + 1) 174 as h Q = ((xent as).length ≤ 2 ∧ Ev (pG L xs) pM d b174 (some FieldType.boolean) Q b174_0 (xentry as 2) [] h) := rfl
theorem v174 {a0 : Nat} {a1 : Value} : Ev (pG L xs) pM d B rt Q (.invokevirtual 174 :: is) ls (a1 :: .ref a0 :: st) h = ((xis h a0 (.inr 12) ∧ (st.map fun v => v.category).sum ≤ 8) ∧ Call (pG L xs) pM d 174 [.ref a0, a1] h (fun v h' => Ev (pG L xs) pM d B rt Q is ls (v.toList ++ st) h')) := e_invokevirtual2 rfl
theorem k174_1 : b174 (Int.toNat (.ofNat 1)) = b174_1 := rfl
theorem m175 : Call (pG L xs) pM (d + 1) 175 as h Q = ((xent as).length ≤ 2 ∧ Ev (pG L xs) pM d b175 (some FieldType.boolean) Q b175_0 (xentry as 2) [] h) := rfl
theorem v175 {a0 : Nat} {a1 : Value} : Ev (pG L xs) pM d B rt Q (.invokevirtual 175 :: is) ls (a1 :: .ref a0 :: st) h = ((xis h a0 (.inr 12) ∧ (st.map fun v => v.category).sum ≤ 8) ∧ Call (pG L xs) pM d 175 [.ref a0, a1] h (fun v h' => Ev (pG L xs) pM d B rt Q is ls (v.toList ++ st) h')) := e_invokevirtual2 rfl
theorem k175_1 : b175 (Int.toNat (.ofNat 1)) = b175_1 := rfl
theorem m176 : Call (pG L xs) pM (d + 1) 176 as h Q = ((xent as).length ≤ 1 ∧ Ev (pG L xs) pM d b176 (some FieldType.int) Q b176_0 (xentry as 1) [] h) := rfl
theorem v176 {a0 : Value} : Ev (pG L xs) pM d B rt Q (.invokestatic 176 :: is) ls (a0 :: st) h = (((st.map fun v => v.category).sum ≤ 8) ∧ Call (pG L xs) pM d 176 [a0] h (fun v h' => Ev (pG L xs) pM d B rt Q is ls (v.toList ++ st) h')) := e_invokestatic1 rfl
theorem k176_1 : b176 (Int.toNat (.ofNat 1)) = b176_1 := rfl
theorem k176_2 : b176 (Int.toNat (.ofNat 2)) = b176_2 := rfl
theorem k176_3 : b176 (Int.toNat (.ofNat 3)) = b176_3 := rfl
theorem k176_4 : b176 (Int.toNat (.ofNat 4)) = b176_4 := rfl
theorem k176_0 : b176 (Int.toNat (.ofNat 0)) = b176_0 := rfl
theorem m177 : Call (pG L xs) pM (d + 1) 177 as h Q = ((xent as).length ≤ 2 ∧ Ev (pG L xs) pM d b177 (none) Q b177_0 (xentry as 2) [] h) := rfl
theorem v177 {a0 : Nat} {a1 : Value} : Ev (pG L xs) pM d B rt Q (.invokevirtual 177 :: is) ls (a1 :: .ref a0 :: st) h = ((xis h a0 (.inr 12) ∧ (st.map fun v => v.category).sum ≤ 8) ∧ Call (pG L xs) pM d 177 [.ref a0, a1] h (fun v h' => Ev (pG L xs) pM d B rt Q is ls (v.toList ++ st) h')) := e_invokevirtual2 rfl
theorem k177_1 : b177 (Int.toNat (.ofNat 1)) = b177_1 := rfl
theorem k177_0 : b177 (Int.toNat (.ofNat 0)) = b177_0 := rfl
theorem m178 : Call (pG L xs) pM (d + 1) 178 as h Q = ((xent as).length ≤ 3 ∧ Ev (pG L xs) pM d b178 (some FieldType.boolean) Q b178_0 (xentry as 3) [] h) := rfl
theorem v178 {a0 : Nat}  : Ev (pG L xs) pM d B rt Q (.invokevirtual 178 :: is) ls (.ref a0 :: st) h = ((xis h a0 (.inr 12) ∧ (st.map fun v => v.category).sum ≤ 8) ∧ Call (pG L xs) pM d 178 [.ref a0] h (fun v h' => Ev (pG L xs) pM d B rt Q is ls (v.toList ++ st) h')) := e_invokevirtual1 rfl
theorem k178_1 : b178 (Int.toNat (.ofNat 1)) = b178_1 := rfl
theorem k178_2 : b178 (Int.toNat (.ofNat 2)) = b178_2 := rfl
theorem k178_3 : b178 (Int.toNat (.ofNat 3)) = b178_3 := rfl
theorem k178_4 : b178 (Int.toNat (.ofNat 4)) = b178_4 := rfl
theorem k178_5 : b178 (Int.toNat (.ofNat 5)) = b178_5 := rfl
theorem k178_0 : b178 (Int.toNat (.ofNat 0)) = b178_0 := rfl
theorem m179 : Call (pG L xs) pM (d + 1) 179 as h Q = ((xent as).length ≤ 2 ∧ Ev (pG L xs) pM d b179 (some FieldType.boolean) Q b179_0 (xentry as 2) [] h) := rfl
theorem v179 {a0 : Nat}  : Ev (pG L xs) pM d B rt Q (.invokevirtual 179 :: is) ls (.ref a0 :: st) h = ((xis h a0 (.inr 12) ∧ (st.map fun v => v.category).sum ≤ 8) ∧ Call (pG L xs) pM d 179 [.ref a0] h (fun v h' => Ev (pG L xs) pM d B rt Q is ls (v.toList ++ st) h')) := e_invokevirtual1 rfl
theorem k179_1 : b179 (Int.toNat (.ofNat 1)) = b179_1 := rfl
theorem k179_2 : b179 (Int.toNat (.ofNat 2)) = b179_2 := rfl
theorem k179_3 : b179 (Int.toNat (.ofNat 3)) = b179_3 := rfl
theorem k179_4 : b179 (Int.toNat (.ofNat 4)) = b179_4 := rfl
theorem k179_5 : b179 (Int.toNat (.ofNat 5)) = b179_5 := rfl
theorem k179_6 : b179 (Int.toNat (.ofNat 6)) = b179_6 := rfl
theorem k179_7 : b179 (Int.toNat (.ofNat 7)) = b179_7 := rfl
theorem k179_0 : b179 (Int.toNat (.ofNat 0)) = b179_0 := rfl
theorem m180 : Call (pG L xs) pM (d + 1) 180 as h Q = ((xent as).length ≤ 2 ∧ Ev (pG L xs) pM d b180 (some FieldType.boolean) Q b180_0 (xentry as 2) [] h) := rfl
theorem v180 {a0 : Nat}  : Ev (pG L xs) pM d B rt Q (.invokevirtual 180 :: is) ls (.ref a0 :: st) h = ((xis h a0 (.inr 12) ∧ (st.map fun v => v.category).sum ≤ 8) ∧ Call (pG L xs) pM d 180 [.ref a0] h (fun v h' => Ev (pG L xs) pM d B rt Q is ls (v.toList ++ st) h')) := e_invokevirtual1 rfl
theorem k180_1 : b180 (Int.toNat (.ofNat 1)) = b180_1 := rfl
theorem k180_2 : b180 (Int.toNat (.ofNat 2)) = b180_2 := rfl
theorem k180_3 : b180 (Int.toNat (.ofNat 3)) = b180_3 := rfl
theorem k180_4 : b180 (Int.toNat (.ofNat 4)) = b180_4 := rfl
theorem k180_5 : b180 (Int.toNat (.ofNat 5)) = b180_5 := rfl
theorem k180_6 : b180 (Int.toNat (.ofNat 6)) = b180_6 := rfl
theorem k180_0 : b180 (Int.toNat (.ofNat 0)) = b180_0 := rfl
theorem m181 : Call (pG L xs) pM (d + 1) 181 as h Q = ((xent as).length ≤ 5 ∧ Ev (pG L xs) pM d b181 (some FieldType.boolean) Q b181_0 (xentry as 5) [] h) := rfl
theorem v181 {a0 : Nat}  : Ev (pG L xs) pM d B rt Q (.invokevirtual 181 :: is) ls (.ref a0 :: st) h = ((xis h a0 (.inr 12) ∧ (st.map fun v => v.category).sum ≤ 8) ∧ Call (pG L xs) pM d 181 [.ref a0] h (fun v h' => Ev (pG L xs) pM d B rt Q is ls (v.toList ++ st) h')) := e_invokevirtual1 rfl
theorem k181_1 : b181 (Int.toNat (.ofNat 1)) = b181_1 := rfl
theorem k181_2 : b181 (Int.toNat (.ofNat 2)) = b181_2 := rfl
theorem k181_3 : b181 (Int.toNat (.ofNat 3)) = b181_3 := rfl
theorem k181_4 : b181 (Int.toNat (.ofNat 4)) = b181_4 := rfl
theorem k181_5 : b181 (Int.toNat (.ofNat 5)) = b181_5 := rfl
theorem k181_6 : b181 (Int.toNat (.ofNat 6)) = b181_6 := rfl
theorem k181_7 : b181 (Int.toNat (.ofNat 7)) = b181_7 := rfl
theorem k181_8 : b181 (Int.toNat (.ofNat 8)) = b181_8 := rfl
theorem k181_9 : b181 (Int.toNat (.ofNat 9)) = b181_9 := rfl
theorem k181_10 : b181 (Int.toNat (.ofNat 10)) = b181_10 := rfl
theorem k181_11 : b181 (Int.toNat (.ofNat 11)) = b181_11 := rfl
theorem k181_12 : b181 (Int.toNat (.ofNat 12)) = b181_12 := rfl
theorem k181_0 : b181 (Int.toNat (.ofNat 0)) = b181_0 := rfl
theorem m182 : Call (pG L xs) pM (d + 1) 182 as h Q = ((xent as).length ≤ 3 ∧ Ev (pG L xs) pM d b182 (some FieldType.boolean) Q b182_0 (xentry as 3) [] h) := rfl
theorem v182 {a0 : Nat}  : Ev (pG L xs) pM d B rt Q (.invokevirtual 182 :: is) ls (.ref a0 :: st) h = ((xis h a0 (.inr 12) ∧ (st.map fun v => v.category).sum ≤ 8) ∧ Call (pG L xs) pM d 182 [.ref a0] h (fun v h' => Ev (pG L xs) pM d B rt Q is ls (v.toList ++ st) h')) := e_invokevirtual1 rfl
theorem k182_1 : b182 (Int.toNat (.ofNat 1)) = b182_1 := rfl
theorem k182_2 : b182 (Int.toNat (.ofNat 2)) = b182_2 := rfl
theorem k182_3 : b182 (Int.toNat (.ofNat 3)) = b182_3 := rfl
theorem k182_4 : b182 (Int.toNat (.ofNat 4)) = b182_4 := rfl
theorem k182_5 : b182 (Int.toNat (.ofNat 5)) = b182_5 := rfl
theorem k182_6 : b182 (Int.toNat (.ofNat 6)) = b182_6 := rfl
theorem k182_0 : b182 (Int.toNat (.ofNat 0)) = b182_0 := rfl
theorem m183 : Call (pG L xs) pM (d + 1) 183 as h Q = ((xent as).length ≤ 2 ∧ Ev (pG L xs) pM d b183 (some FieldType.boolean) Q b183_0 (xentry as 2) [] h) := rfl
theorem v183 {a0 : Nat}  : Ev (pG L xs) pM d B rt Q (.invokevirtual 183 :: is) ls (.ref a0 :: st) h = ((xis h a0 (.inr 12) ∧ (st.map fun v => v.category).sum ≤ 8) ∧ Call (pG L xs) pM d 183 [.ref a0] h (fun v h' => Ev (pG L xs) pM d B rt Q is ls (v.toList ++ st) h')) := e_invokevirtual1 rfl
theorem k183_1 : b183 (Int.toNat (.ofNat 1)) = b183_1 := rfl
theorem k183_2 : b183 (Int.toNat (.ofNat 2)) = b183_2 := rfl
theorem k183_3 : b183 (Int.toNat (.ofNat 3)) = b183_3 := rfl
theorem k183_0 : b183 (Int.toNat (.ofNat 0)) = b183_0 := rfl
theorem m184 : Call (pG L xs) pM (d + 1) 184 as h Q = ((xent as).length ≤ 1 ∧ Ev (pG L xs) pM d b184 (none) Q b184_0 (xentry as 1) [] h) := rfl
theorem v184 {a0 : Nat}  : Ev (pG L xs) pM d B rt Q (.invokevirtual 184 :: is) ls (.ref a0 :: st) h = ((xis h a0 (.inr 12) ∧ (st.map fun v => v.category).sum ≤ 8) ∧ Call (pG L xs) pM d 184 [.ref a0] h (fun v h' => Ev (pG L xs) pM d B rt Q is ls (v.toList ++ st) h')) := e_invokevirtual1 rfl
theorem k184_1 : b184 (Int.toNat (.ofNat 1)) = b184_1 := rfl
theorem k184_2 : b184 (Int.toNat (.ofNat 2)) = b184_2 := rfl
theorem m185 : Call (pG L xs) pM (d + 1) 185 as h Q = ((xent as).length ≤ 3 ∧ Ev (pG L xs) pM d b185 (some FieldType.boolean) Q b185_0 (xentry as 3) [] h) := rfl
theorem v185 {a0 : Nat}  : Ev (pG L xs) pM d B rt Q (.invokevirtual 185 :: is) ls (.ref a0 :: st) h = ((xis h a0 (.inr 12) ∧ (st.map fun v => v.category).sum ≤ 8) ∧ Call (pG L xs) pM d 185 [.ref a0] h (fun v h' => Ev (pG L xs) pM d B rt Q is ls (v.toList ++ st) h')) := e_invokevirtual1 rfl
theorem k185_1 : b185 (Int.toNat (.ofNat 1)) = b185_1 := rfl
theorem k185_2 : b185 (Int.toNat (.ofNat 2)) = b185_2 := rfl
theorem k185_3 : b185 (Int.toNat (.ofNat 3)) = b185_3 := rfl
theorem k185_4 : b185 (Int.toNat (.ofNat 4)) = b185_4 := rfl
theorem k185_5 : b185 (Int.toNat (.ofNat 5)) = b185_5 := rfl
theorem k185_6 : b185 (Int.toNat (.ofNat 6)) = b185_6 := rfl
theorem k185_7 : b185 (Int.toNat (.ofNat 7)) = b185_7 := rfl
theorem k185_8 : b185 (Int.toNat (.ofNat 8)) = b185_8 := rfl
theorem k185_9 : b185 (Int.toNat (.ofNat 9)) = b185_9 := rfl
theorem k185_0 : b185 (Int.toNat (.ofNat 0)) = b185_0 := rfl
theorem m186 : Call (pG L xs) pM (d + 1) 186 as h Q = ((xent as).length ≤ 2 ∧ Ev (pG L xs) pM d b186 (some FieldType.boolean) Q b186_0 (xentry as 2) [] h) := rfl
theorem v186 {a0 : Nat}  : Ev (pG L xs) pM d B rt Q (.invokevirtual 186 :: is) ls (.ref a0 :: st) h = ((xis h a0 (.inr 12) ∧ (st.map fun v => v.category).sum ≤ 8) ∧ Call (pG L xs) pM d 186 [.ref a0] h (fun v h' => Ev (pG L xs) pM d B rt Q is ls (v.toList ++ st) h')) := e_invokevirtual1 rfl
theorem k186_1 : b186 (Int.toNat (.ofNat 1)) = b186_1 := rfl
theorem k186_2 : b186 (Int.toNat (.ofNat 2)) = b186_2 := rfl
theorem k186_0 : b186 (Int.toNat (.ofNat 0)) = b186_0 := rfl
theorem m187 : Call (pG L xs) pM (d + 1) 187 as h Q = ((xent as).length ≤ 4 ∧ Ev (pG L xs) pM d b187 (some FieldType.boolean) Q b187_0 (xentry as 4) [] h) := rfl
theorem v187 {a0 : Nat} {a1 a2 a3 : Value} : Ev (pG L xs) pM d B rt Q (.invokevirtual 187 :: is) ls (a3 :: a2 :: a1 :: .ref a0 :: st) h = ((xis h a0 (.inr 12) ∧ (st.map fun v => v.category).sum ≤ 8) ∧ Call (pG L xs) pM d 187 [.ref a0, a1, a2, a3] h (fun v h' => Ev (pG L xs) pM d B rt Q is ls (v.toList ++ st) h')) := e_invokevirtual4 rfl
theorem k187_1 : b187 (Int.toNat (.ofNat 1)) = b187_1 := rfl
theorem k187_0 : b187 (Int.toNat (.ofNat 0)) = b187_0 := rfl
theorem m188 : Call (pG L xs) pM (d + 1) 188 as h Q = ((xent as).length ≤ 3 ∧ Ev (pG L xs) pM d b188 (some FieldType.boolean) Q b188_0 (xentry as 3) [] h) := rfl
theorem v188 {a0 : Nat} {a1 : Value} : Ev (pG L xs) pM d B rt Q (.invokevirtual 188 :: is) ls (a1 :: .ref a0 :: st) h = ((xis h a0 (.inr 12) ∧ (st.map fun v => v.category).sum ≤ 8) ∧ Call (pG L xs) pM d 188 [.ref a0, a1] h (fun v h' => Ev (pG L xs) pM d B rt Q is ls (v.toList ++ st) h')) := e_invokevirtual2 rfl
theorem k188_1 : b188 (Int.toNat (.ofNat 1)) = b188_1 := rfl
theorem k188_2 : b188 (Int.toNat (.ofNat 2)) = b188_2 := rfl
theorem k188_3 : b188 (Int.toNat (.ofNat 3)) = b188_3 := rfl
theorem k188_4 : b188 (Int.toNat (.ofNat 4)) = b188_4 := rfl
theorem k188_5 : b188 (Int.toNat (.ofNat 5)) = b188_5 := rfl
theorem k188_0 : b188 (Int.toNat (.ofNat 0)) = b188_0 := rfl
theorem m189 : Call (pG L xs) pM (d + 1) 189 as h Q = ((xent as).length ≤ 3 ∧ Ev (pG L xs) pM d b189 (some FieldType.boolean) Q b189_0 (xentry as 3) [] h) := rfl
theorem v189 {a0 : Nat} {a1 : Value} : Ev (pG L xs) pM d B rt Q (.invokevirtual 189 :: is) ls (a1 :: .ref a0 :: st) h = ((xis h a0 (.inr 12) ∧ (st.map fun v => v.category).sum ≤ 8) ∧ Call (pG L xs) pM d 189 [.ref a0, a1] h (fun v h' => Ev (pG L xs) pM d B rt Q is ls (v.toList ++ st) h')) := e_invokevirtual2 rfl
theorem k189_1 : b189 (Int.toNat (.ofNat 1)) = b189_1 := rfl
theorem k189_2 : b189 (Int.toNat (.ofNat 2)) = b189_2 := rfl
theorem k189_3 : b189 (Int.toNat (.ofNat 3)) = b189_3 := rfl
theorem k189_0 : b189 (Int.toNat (.ofNat 0)) = b189_0 := rfl
theorem m190 : Call (pG L xs) pM (d + 1) 190 as h Q = ((xent as).length ≤ 2 ∧ Ev (pG L xs) pM d b190 (some FieldType.boolean) Q b190_0 (xentry as 2) [] h) := rfl
theorem v190 {a0 : Nat}  : Ev (pG L xs) pM d B rt Q (.invokevirtual 190 :: is) ls (.ref a0 :: st) h = ((xis h a0 (.inr 12) ∧ (st.map fun v => v.category).sum ≤ 8) ∧ Call (pG L xs) pM d 190 [.ref a0] h (fun v h' => Ev (pG L xs) pM d B rt Q is ls (v.toList ++ st) h')) := e_invokevirtual1 rfl
theorem k190_1 : b190 (Int.toNat (.ofNat 1)) = b190_1 := rfl
theorem k190_2 : b190 (Int.toNat (.ofNat 2)) = b190_2 := rfl
theorem k190_0 : b190 (Int.toNat (.ofNat 0)) = b190_0 := rfl
theorem m191 : Call (pG L xs) pM (d + 1) 191 as h Q = ((xent as).length ≤ 2 ∧ Ev (pG L xs) pM d b191 (some FieldType.boolean) Q b191_0 (xentry as 2) [] h) := rfl
theorem v191 {a0 : Nat} {a1 : Value} : Ev (pG L xs) pM d B rt Q (.invokevirtual 191 :: is) ls (a1 :: .ref a0 :: st) h = ((xis h a0 (.inr 12) ∧ (st.map fun v => v.category).sum ≤ 8) ∧ Call (pG L xs) pM d 191 [.ref a0, a1] h (fun v h' => Ev (pG L xs) pM d B rt Q is ls (v.toList ++ st) h')) := e_invokevirtual2 rfl
theorem k191_1 : b191 (Int.toNat (.ofNat 1)) = b191_1 := rfl
theorem k191_2 : b191 (Int.toNat (.ofNat 2)) = b191_2 := rfl
theorem k191_3 : b191 (Int.toNat (.ofNat 3)) = b191_3 := rfl
theorem k191_4 : b191 (Int.toNat (.ofNat 4)) = b191_4 := rfl
theorem k191_0 : b191 (Int.toNat (.ofNat 0)) = b191_0 := rfl
theorem m192 : Call (pG L xs) pM (d + 1) 192 as h Q = ((xent as).length ≤ 1 ∧ Ev (pG L xs) pM d b192 (some FieldType.boolean) Q b192_0 (xentry as 1) [] h) := rfl
theorem v192 {a0 : Nat}  : Ev (pG L xs) pM d B rt Q (.invokevirtual 192 :: is) ls (.ref a0 :: st) h = ((xis h a0 (.inr 12) ∧ (st.map fun v => v.category).sum ≤ 8) ∧ Call (pG L xs) pM d 192 [.ref a0] h (fun v h' => Ev (pG L xs) pM d B rt Q is ls (v.toList ++ st) h')) := e_invokevirtual1 rfl
theorem k192_1 : b192 (Int.toNat (.ofNat 1)) = b192_1 := rfl
theorem k192_2 : b192 (Int.toNat (.ofNat 2)) = b192_2 := rfl
theorem k192_3 : b192 (Int.toNat (.ofNat 3)) = b192_3 := rfl
theorem k192_0 : b192 (Int.toNat (.ofNat 0)) = b192_0 := rfl
theorem m193 : Call (pG L xs) pM (d + 1) 193 as h Q = ((xent as).length ≤ 3 ∧ Ev (pG L xs) pM d b193 (some FieldType.boolean) Q b193_0 (xentry as 3) [] h) := rfl
theorem v193 {a0 : Nat}  : Ev (pG L xs) pM d B rt Q (.invokevirtual 193 :: is) ls (.ref a0 :: st) h = ((xis h a0 (.inr 12) ∧ (st.map fun v => v.category).sum ≤ 8) ∧ Call (pG L xs) pM d 193 [.ref a0] h (fun v h' => Ev (pG L xs) pM d B rt Q is ls (v.toList ++ st) h')) := e_invokevirtual1 rfl
theorem k193_1 : b193 (Int.toNat (.ofNat 1)) = b193_1 := rfl
theorem k193_2 : b193 (Int.toNat (.ofNat 2)) = b193_2 := rfl
theorem k193_3 : b193 (Int.toNat (.ofNat 3)) = b193_3 := rfl
theorem k193_4 : b193 (Int.toNat (.ofNat 4)) = b193_4 := rfl
theorem k193_5 : b193 (Int.toNat (.ofNat 5)) = b193_5 := rfl
theorem k193_6 : b193 (Int.toNat (.ofNat 6)) = b193_6 := rfl
theorem k193_7 : b193 (Int.toNat (.ofNat 7)) = b193_7 := rfl
theorem k193_8 : b193 (Int.toNat (.ofNat 8)) = b193_8 := rfl
theorem k193_9 : b193 (Int.toNat (.ofNat 9)) = b193_9 := rfl
theorem k193_10 : b193 (Int.toNat (.ofNat 10)) = b193_10 := rfl
theorem k193_0 : b193 (Int.toNat (.ofNat 0)) = b193_0 := rfl
theorem m194 : Call (pG L xs) pM (d + 1) 194 as h Q = ((xent as).length ≤ 2 ∧ Ev (pG L xs) pM d b194 (some FieldType.boolean) Q b194_0 (xentry as 2) [] h) := rfl
theorem v194 {a0 : Nat}  : Ev (pG L xs) pM d B rt Q (.invokevirtual 194 :: is) ls (.ref a0 :: st) h = ((xis h a0 (.inr 12) ∧ (st.map fun v => v.category).sum ≤ 8) ∧ Call (pG L xs) pM d 194 [.ref a0] h (fun v h' => Ev (pG L xs) pM d B rt Q is ls (v.toList ++ st) h')) := e_invokevirtual1 rfl
theorem k194_1 : b194 (Int.toNat (.ofNat 1)) = b194_1 := rfl
theorem k194_2 : b194 (Int.toNat (.ofNat 2)) = b194_2 := rfl
theorem k194_3 : b194 (Int.toNat (.ofNat 3)) = b194_3 := rfl
theorem k194_4 : b194 (Int.toNat (.ofNat 4)) = b194_4 := rfl
theorem k194_5 : b194 (Int.toNat (.ofNat 5)) = b194_5 := rfl
theorem k194_0 : b194 (Int.toNat (.ofNat 0)) = b194_0 := rfl
theorem m195 : Call (pG L xs) pM (d + 1) 195 as h Q = ((xent as).length ≤ 1 ∧ Ev (pG L xs) pM d b195 (some FieldType.int) Q b195_0 (xentry as 1) [] h) := rfl
theorem v195 {a0 : Nat}  : Ev (pG L xs) pM d B rt Q (.invokevirtual 195 :: is) ls (.ref a0 :: st) h = ((xis h a0 (.inr 12) ∧ (st.map fun v => v.category).sum ≤ 8) ∧ Call (pG L xs) pM d 195 [.ref a0] h (fun v h' => Ev (pG L xs) pM d B rt Q is ls (v.toList ++ st) h')) := e_invokevirtual1 rfl
theorem k195_1 : b195 (Int.toNat (.ofNat 1)) = b195_1 := rfl
theorem k195_2 : b195 (Int.toNat (.ofNat 2)) = b195_2 := rfl
theorem k195_0 : b195 (Int.toNat (.ofNat 0)) = b195_0 := rfl
theorem m196 : Call (pG L xs) pM (d + 1) 196 as h Q = ((xent as).length ≤ 2 ∧ Ev (pG L xs) pM d b196 (some FieldType.int) Q b196_0 (xentry as 2) [] h) := rfl
theorem v196 {a0 : Nat}  : Ev (pG L xs) pM d B rt Q (.invokevirtual 196 :: is) ls (.ref a0 :: st) h = ((xis h a0 (.inr 12) ∧ (st.map fun v => v.category).sum ≤ 8) ∧ Call (pG L xs) pM d 196 [.ref a0] h (fun v h' => Ev (pG L xs) pM d B rt Q is ls (v.toList ++ st) h')) := e_invokevirtual1 rfl
theorem k196_1 : b196 (Int.toNat (.ofNat 1)) = b196_1 := rfl
theorem k196_2 : b196 (Int.toNat (.ofNat 2)) = b196_2 := rfl
theorem k196_3 : b196 (Int.toNat (.ofNat 3)) = b196_3 := rfl
theorem k196_4 : b196 (Int.toNat (.ofNat 4)) = b196_4 := rfl
theorem k196_5 : b196 (Int.toNat (.ofNat 5)) = b196_5 := rfl
theorem k196_6 : b196 (Int.toNat (.ofNat 6)) = b196_6 := rfl
theorem k196_7 : b196 (Int.toNat (.ofNat 7)) = b196_7 := rfl
theorem k196_0 : b196 (Int.toNat (.ofNat 0)) = b196_0 := rfl
theorem m197 : Call (pG L xs) pM (d + 1) 197 as h Q = ((xent as).length ≤ 2 ∧ Ev (pG L xs) pM d b197 (some FieldType.boolean) Q b197_0 (xentry as 2) [] h) := rfl
theorem v197 {a0 : Nat} {a1 : Value} : Ev (pG L xs) pM d B rt Q (.invokevirtual 197 :: is) ls (a1 :: .ref a0 :: st) h = ((xis h a0 (.inr 12) ∧ (st.map fun v => v.category).sum ≤ 8) ∧ Call (pG L xs) pM d 197 [.ref a0, a1] h (fun v h' => Ev (pG L xs) pM d B rt Q is ls (v.toList ++ st) h')) := e_invokevirtual2 rfl
theorem k197_1 : b197 (Int.toNat (.ofNat 1)) = b197_1 := rfl
theorem k197_2 : b197 (Int.toNat (.ofNat 2)) = b197_2 := rfl
theorem k197_0 : b197 (Int.toNat (.ofNat 0)) = b197_0 := rfl
theorem m198 : Call (pG L xs) pM (d + 1) 198 as h Q = ((xent as).length ≤ 3 ∧ Ev (pG L xs) pM d b198 (none) Q b198_0 (xentry as 3) [] h) := rfl
theorem v198 {a0 : Nat} {a1 : Value} : Ev (pG L xs) pM d B rt Q (.invokevirtual 198 :: is) ls (a1 :: .ref a0 :: st) h = ((xis h a0 (.inr 12) ∧ (st.map fun v => v.category).sum ≤ 8) ∧ Call (pG L xs) pM d 198 [.ref a0, a1] h (fun v h' => Ev (pG L xs) pM d B rt Q is ls (v.toList ++ st) h')) := e_invokevirtual2 rfl
theorem m199 : Call (pG L xs) pM (d + 1) 199 as h Q = ((xent as).length ≤ 1 ∧ Ev (pG L xs) pM d b199 (some FieldType.long) Q b199_0 (xentry as 1) [] h) := rfl
theorem v199 {a0 : Nat}  : Ev (pG L xs) pM d B rt Q (.invokevirtual 199 :: is) ls (.ref a0 :: st) h = ((xis h a0 (.inr 12) ∧ (st.map fun v => v.category).sum ≤ 8) ∧ Call (pG L xs) pM d 199 [.ref a0] h (fun v h' => Ev (pG L xs) pM d B rt Q is ls (v.toList ++ st) h')) := e_invokevirtual1 rfl
theorem m200 : Call (pG L xs) pM (d + 1) 200 as h Q = ((xent as).length ≤ 5 ∧ Ev (pG L xs) pM d b200 (some FieldType.long) Q b200_0 (xentry as 5) [] h) := rfl
theorem v200 {a0 a1 a2 : Value} : Ev (pG L xs) pM d B rt Q (.invokestatic 200 :: is) ls (a2 :: a1 :: a0 :: st) h = (((st.map fun v => v.category).sum ≤ 8) ∧ Call (pG L xs) pM d 200 [a0, a1, a2] h (fun v h' => Ev (pG L xs) pM d B rt Q is ls (v.toList ++ st) h')) := e_invokestatic3 rfl
theorem k200_1 : b200 (Int.toNat (.ofNat 1)) = b200_1 := rfl
theorem k200_2 : b200 (Int.toNat (.ofNat 2)) = b200_2 := rfl
theorem k200_3 : b200 (Int.toNat (.ofNat 3)) = b200_3 := rfl
theorem k200_4 : b200 (Int.toNat (.ofNat 4)) = b200_4 := rfl
theorem k200_5 : b200 (Int.toNat (.ofNat 5)) = b200_5 := rfl
theorem k200_6 : b200 (Int.toNat (.ofNat 6)) = b200_6 := rfl
theorem k200_7 : b200 (Int.toNat (.ofNat 7)) = b200_7 := rfl
theorem k200_8 : b200 (Int.toNat (.ofNat 8)) = b200_8 := rfl
theorem k200_9 : b200 (Int.toNat (.ofNat 9)) = b200_9 := rfl
theorem k200_10 : b200 (Int.toNat (.ofNat 10)) = b200_10 := rfl
theorem k200_11 : b200 (Int.toNat (.ofNat 11)) = b200_11 := rfl
theorem k200_12 : b200 (Int.toNat (.ofNat 12)) = b200_12 := rfl
theorem k200_13 : b200 (Int.toNat (.ofNat 13)) = b200_13 := rfl
theorem k200_14 : b200 (Int.toNat (.ofNat 14)) = b200_14 := rfl
theorem k200_15 : b200 (Int.toNat (.ofNat 15)) = b200_15 := rfl
theorem k200_16 : b200 (Int.toNat (.ofNat 16)) = b200_16 := rfl
theorem k200_17 : b200 (Int.toNat (.ofNat 17)) = b200_17 := rfl
theorem k200_18 : b200 (Int.toNat (.ofNat 18)) = b200_18 := rfl
theorem k200_19 : b200 (Int.toNat (.ofNat 19)) = b200_19 := rfl
theorem k200_20 : b200 (Int.toNat (.ofNat 20)) = b200_20 := rfl
theorem k200_21 : b200 (Int.toNat (.ofNat 21)) = b200_21 := rfl
theorem k200_22 : b200 (Int.toNat (.ofNat 22)) = b200_22 := rfl
theorem k200_23 : b200 (Int.toNat (.ofNat 23)) = b200_23 := rfl
theorem k200_24 : b200 (Int.toNat (.ofNat 24)) = b200_24 := rfl
theorem k200_25 : b200 (Int.toNat (.ofNat 25)) = b200_25 := rfl
theorem k200_26 : b200 (Int.toNat (.ofNat 26)) = b200_26 := rfl
theorem k200_0 : b200 (Int.toNat (.ofNat 0)) = b200_0 := rfl
theorem m201 : Call (pG L xs) pM (d + 1) 201 as h Q = ((xent as).length ≤ 11 ∧ Ev (pG L xs) pM d b201 (some FieldType.long) Q b201_0 (xentry as 11) [] h) := rfl
theorem v201 {a0 : Nat} {a1 a2 a3 : Value} : Ev (pG L xs) pM d B rt Q (.invokevirtual 201 :: is) ls (a3 :: a2 :: a1 :: .ref a0 :: st) h = ((xis h a0 (.inr 12) ∧ (st.map fun v => v.category).sum ≤ 8) ∧ Call (pG L xs) pM d 201 [.ref a0, a1, a2, a3] h (fun v h' => Ev (pG L xs) pM d B rt Q is ls (v.toList ++ st) h')) := e_invokevirtual4 rfl
theorem k201_1 : b201 (Int.toNat (.ofNat 1)) = b201_1 := rfl
theorem k201_2 : b201 (Int.toNat (.ofNat 2)) = b201_2 := rfl
theorem k201_3 : b201 (Int.toNat (.ofNat 3)) = b201_3 := rfl
theorem k201_4 : b201 (Int.toNat (.ofNat 4)) = b201_4 := rfl
theorem k201_5 : b201 (Int.toNat (.ofNat 5)) = b201_5 := rfl
theorem k201_6 : b201 (Int.toNat (.ofNat 6)) = b201_6 := rfl
theorem k201_0 : b201 (Int.toNat (.ofNat 0)) = b201_0 := rfl
theorem m202 : Call (pG L xs) pM (d + 1) 202 as h Q = ((xent as).length ≤ 1 ∧ Ev (pG L xs) pM d b202 (some FieldType.boolean) Q b202_0 (xentry as 1) [] h) := rfl
theorem v202 {a0 : Nat}  : Ev (pG L xs) pM d B rt Q (.invokevirtual 202 :: is) ls (.ref a0 :: st) h = ((xis h a0 (.inr 12) ∧ (st.map fun v => v.category).sum ≤ 8) ∧ Call (pG L xs) pM d 202 [.ref a0] h (fun v h' => Ev (pG L xs) pM d B rt Q is ls (v.toList ++ st) h')) := e_invokevirtual1 rfl
theorem k202_1 : b202 (Int.toNat (.ofNat 1)) = b202_1 := rfl
theorem k202_2 : b202 (Int.toNat (.ofNat 2)) = b202_2 := rfl
theorem k202_0 : b202 (Int.toNat (.ofNat 0)) = b202_0 := rfl
theorem m203 : Call (pG L xs) pM (d + 1) 203 as h Q = ((xent as).length ≤ 2 ∧ Ev (pG L xs) pM d b203 (some FieldType.boolean) Q b203_0 (xentry as 2) [] h) := rfl
theorem v203 {a0 : Nat} {a1 : Value} : Ev (pG L xs) pM d B rt Q (.invokevirtual 203 :: is) ls (a1 :: .ref a0 :: st) h = ((xis h a0 (.inr 12) ∧ (st.map fun v => v.category).sum ≤ 8) ∧ Call (pG L xs) pM d 203 [.ref a0, a1] h (fun v h' => Ev (pG L xs) pM d B rt Q is ls (v.toList ++ st) h')) := e_invokevirtual2 rfl
theorem k203_1 : b203 (Int.toNat (.ofNat 1)) = b203_1 := rfl
theorem k203_2 : b203 (Int.toNat (.ofNat 2)) = b203_2 := rfl
theorem k203_0 : b203 (Int.toNat (.ofNat 0)) = b203_0 := rfl
theorem m204 : Call (pG L xs) pM (d + 1) 204 as h Q = ((xent as).length ≤ 2 ∧ Ev (pG L xs) pM d b204 (some FieldType.int) Q b204_0 (xentry as 2) [] h) := rfl
theorem v204 {a0 : Nat} {a1 : Value} : Ev (pG L xs) pM d B rt Q (.invokevirtual 204 :: is) ls (a1 :: .ref a0 :: st) h = ((xis h a0 (.inr 12) ∧ (st.map fun v => v.category).sum ≤ 8) ∧ Call (pG L xs) pM d 204 [.ref a0, a1] h (fun v h' => Ev (pG L xs) pM d B rt Q is ls (v.toList ++ st) h')) := e_invokevirtual2 rfl
theorem m205 : Call (pG L xs) pM (d + 1) 205 as h Q = ((xent as).length ≤ 2 ∧ Ev (pG L xs) pM d b205 (some FieldType.boolean) Q b205_0 (xentry as 2) [] h) := rfl
theorem v205 {a0 : Nat} {a1 : Value} : Ev (pG L xs) pM d B rt Q (.invokevirtual 205 :: is) ls (a1 :: .ref a0 :: st) h = ((xis h a0 (.inr 12) ∧ (st.map fun v => v.category).sum ≤ 8) ∧ Call (pG L xs) pM d 205 [.ref a0, a1] h (fun v h' => Ev (pG L xs) pM d B rt Q is ls (v.toList ++ st) h')) := e_invokevirtual2 rfl
theorem k205_1 : b205 (Int.toNat (.ofNat 1)) = b205_1 := rfl
theorem k205_2 : b205 (Int.toNat (.ofNat 2)) = b205_2 := rfl
theorem k205_0 : b205 (Int.toNat (.ofNat 0)) = b205_0 := rfl
theorem m206 : Call (pG L xs) pM (d + 1) 206 as h Q = ((xent as).length ≤ 3 ∧ Ev (pG L xs) pM d b206 (some FieldType.int) Q b206_0 (xentry as 3) [] h) := rfl
theorem v206 {a0 : Nat} {a1 a2 : Value} : Ev (pG L xs) pM d B rt Q (.invokevirtual 206 :: is) ls (a2 :: a1 :: .ref a0 :: st) h = ((xis h a0 (.inr 12) ∧ (st.map fun v => v.category).sum ≤ 8) ∧ Call (pG L xs) pM d 206 [.ref a0, a1, a2] h (fun v h' => Ev (pG L xs) pM d B rt Q is ls (v.toList ++ st) h')) := e_invokevirtual3 rfl
theorem m207 : Call (pG L xs) pM (d + 1) 207 as h Q = ((xent as).length ≤ 4 ∧ Ev (pG L xs) pM d b207 (some FieldType.int) Q b207_0 (xentry as 4) [] h) := rfl
theorem v207 {a0 : Nat} {a1 a2 : Value} : Ev (pG L xs) pM d B rt Q (.invokevirtual 207 :: is) ls (a2 :: a1 :: .ref a0 :: st) h = ((xis h a0 (.inr 12) ∧ (st.map fun v => v.category).sum ≤ 8) ∧ Call (pG L xs) pM d 207 [.ref a0, a1, a2] h (fun v h' => Ev (pG L xs) pM d B rt Q is ls (v.toList ++ st) h')) := e_invokevirtual3 rfl
theorem k207_1 : b207 (Int.toNat (.ofNat 1)) = b207_1 := rfl
theorem k207_2 : b207 (Int.toNat (.ofNat 2)) = b207_2 := rfl
theorem k207_3 : b207 (Int.toNat (.ofNat 3)) = b207_3 := rfl
theorem k207_0 : b207 (Int.toNat (.ofNat 0)) = b207_0 := rfl
theorem m208 : Call (pG L xs) pM (d + 1) 208 as h Q = ((xent as).length ≤ 3 ∧ Ev (pG L xs) pM d b208 (some FieldType.boolean) Q b208_0 (xentry as 3) [] h) := rfl
theorem v208 {a0 : Nat} {a1 a2 : Value} : Ev (pG L xs) pM d B rt Q (.invokevirtual 208 :: is) ls (a2 :: a1 :: .ref a0 :: st) h = ((xis h a0 (.inr 12) ∧ (st.map fun v => v.category).sum ≤ 8) ∧ Call (pG L xs) pM d 208 [.ref a0, a1, a2] h (fun v h' => Ev (pG L xs) pM d B rt Q is ls (v.toList ++ st) h')) := e_invokevirtual3 rfl
theorem k208_1 : b208 (Int.toNat (.ofNat 1)) = b208_1 := rfl
theorem k208_2 : b208 (Int.toNat (.ofNat 2)) = b208_2 := rfl
theorem k208_0 : b208 (Int.toNat (.ofNat 0)) = b208_0 := rfl
theorem m209 : Call (pG L xs) pM (d + 1) 209 as h Q = ((xent as).length ≤ 3 ∧ Ev (pG L xs) pM d b209 (some FieldType.boolean) Q b209_0 (xentry as 3) [] h) := rfl
theorem v209 {a0 : Nat} {a1 a2 : Value} : Ev (pG L xs) pM d B rt Q (.invokevirtual 209 :: is) ls (a2 :: a1 :: .ref a0 :: st) h = ((xis h a0 (.inr 12) ∧ (st.map fun v => v.category).sum ≤ 8) ∧ Call (pG L xs) pM d 209 [.ref a0, a1, a2] h (fun v h' => Ev (pG L xs) pM d B rt Q is ls (v.toList ++ st) h')) := e_invokevirtual3 rfl
theorem k209_1 : b209 (Int.toNat (.ofNat 1)) = b209_1 := rfl
theorem k209_2 : b209 (Int.toNat (.ofNat 2)) = b209_2 := rfl
theorem k209_3 : b209 (Int.toNat (.ofNat 3)) = b209_3 := rfl
theorem k209_0 : b209 (Int.toNat (.ofNat 0)) = b209_0 := rfl
theorem m210 : Call (pG L xs) pM (d + 1) 210 as h Q = ((xent as).length ≤ 1 ∧ Ev (pG L xs) pM d b210 (some FieldType.int) Q b210_0 (xentry as 1) [] h) := rfl
theorem v210 {a0 : Nat}  : Ev (pG L xs) pM d B rt Q (.invokevirtual 210 :: is) ls (.ref a0 :: st) h = ((xis h a0 (.inr 12) ∧ (st.map fun v => v.category).sum ≤ 8) ∧ Call (pG L xs) pM d 210 [.ref a0] h (fun v h' => Ev (pG L xs) pM d B rt Q is ls (v.toList ++ st) h')) := e_invokevirtual1 rfl
theorem m211 : Call (pG L xs) pM (d + 1) 211 as h Q = ((xent as).length ≤ 4 ∧ Ev (pG L xs) pM d b211 (some FieldType.int) Q b211_0 (xentry as 4) [] h) := rfl
theorem v211 {a0 : Nat} {a1 : Value} : Ev (pG L xs) pM d B rt Q (.invokevirtual 211 :: is) ls (a1 :: .ref a0 :: st) h = ((xis h a0 (.inr 12) ∧ (st.map fun v => v.category).sum ≤ 8) ∧ Call (pG L xs) pM d 211 [.ref a0, a1] h (fun v h' => Ev (pG L xs) pM d B rt Q is ls (v.toList ++ st) h')) := e_invokevirtual2 rfl
theorem k211_1 : b211 (Int.toNat (.ofNat 1)) = b211_1 := rfl
theorem k211_2 : b211 (Int.toNat (.ofNat 2)) = b211_2 := rfl
theorem k211_3 : b211 (Int.toNat (.ofNat 3)) = b211_3 := rfl
theorem k211_4 : b211 (Int.toNat (.ofNat 4)) = b211_4 := rfl
theorem k211_0 : b211 (Int.toNat (.ofNat 0)) = b211_0 := rfl
theorem m212 : Call (pG L xs) pM (d + 1) 212 as h Q = ((xent as).length ≤ 2 ∧ Ev (pG L xs) pM d b212 (none) Q b212_0 (xentry as 2) [] h) := rfl
theorem v212 {a0 : Nat}  : Ev (pG L xs) pM d B rt Q (.invokevirtual 212 :: is) ls (.ref a0 :: st) h = ((xis h a0 (.inr 12) ∧ (st.map fun v => v.category).sum ≤ 8) ∧ Call (pG L xs) pM d 212 [.ref a0] h (fun v h' => Ev (pG L xs) pM d B rt Q is ls (v.toList ++ st) h')) := e_invokevirtual1 rfl
theorem k212_1 : b212 (Int.toNat (.ofNat 1)) = b212_1 := rfl
theorem k212_2 : b212 (Int.toNat (.ofNat 2)) = b212_2 := rfl
theorem k212_3 : b212 (Int.toNat (.ofNat 3)) = b212_3 := rfl
theorem k212_4 : b212 (Int.toNat (.ofNat 4)) = b212_4 := rfl
theorem k212_0 : b212 (Int.toNat (.ofNat 0)) = b212_0 := rfl
theorem m213 : Call (pG L xs) pM (d + 1) 213 as h Q = ((xent as).length ≤ 3 ∧ Ev (pG L xs) pM d b213 (some FieldType.int) Q b213_0 (xentry as 3) [] h) := rfl
theorem v213 {a0 : Nat} {a1 : Value} : Ev (pG L xs) pM d B rt Q (.invokevirtual 213 :: is) ls (a1 :: .ref a0 :: st) h = ((xis h a0 (.inr 12) ∧ (st.map fun v => v.category).sum ≤ 8) ∧ Call (pG L xs) pM d 213 [.ref a0, a1] h (fun v h' => Ev (pG L xs) pM d B rt Q is ls (v.toList ++ st) h')) := e_invokevirtual2 rfl
theorem k213_1 : b213 (Int.toNat (.ofNat 1)) = b213_1 := rfl
theorem m214 : Call (pG L xs) pM (d + 1) 214 as h Q = ((xent as).length ≤ 3 ∧ Ev (pG L xs) pM d b214 (some FieldType.int) Q b214_0 (xentry as 3) [] h) := rfl
theorem v214 {a0 : Nat} {a1 a2 : Value} : Ev (pG L xs) pM d B rt Q (.invokevirtual 214 :: is) ls (a2 :: a1 :: .ref a0 :: st) h = ((xis h a0 (.inr 12) ∧ (st.map fun v => v.category).sum ≤ 8) ∧ Call (pG L xs) pM d 214 [.ref a0, a1, a2] h (fun v h' => Ev (pG L xs) pM d B rt Q is ls (v.toList ++ st) h')) := e_invokevirtual3 rfl
theorem k214_1 : b214 (Int.toNat (.ofNat 1)) = b214_1 := rfl
theorem k214_2 : b214 (Int.toNat (.ofNat 2)) = b214_2 := rfl
theorem k214_3 : b214 (Int.toNat (.ofNat 3)) = b214_3 := rfl
theorem k214_4 : b214 (Int.toNat (.ofNat 4)) = b214_4 := rfl
theorem k214_5 : b214 (Int.toNat (.ofNat 5)) = b214_5 := rfl
theorem k214_6 : b214 (Int.toNat (.ofNat 6)) = b214_6 := rfl
theorem k214_0 : b214 (Int.toNat (.ofNat 0)) = b214_0 := rfl
theorem m215 : Call (pG L xs) pM (d + 1) 215 as h Q = ((xent as).length ≤ 3 ∧ Ev (pG L xs) pM d b215 (some FieldType.int) Q b215_0 (xentry as 3) [] h) := rfl
theorem v215 {a0 : Nat} {a1 a2 : Value} : Ev (pG L xs) pM d B rt Q (.invokevirtual 215 :: is) ls (a2 :: a1 :: .ref a0 :: st) h = ((xis h a0 (.inr 12) ∧ (st.map fun v => v.category).sum ≤ 8) ∧ Call (pG L xs) pM d 215 [.ref a0, a1, a2] h (fun v h' => Ev (pG L xs) pM d B rt Q is ls (v.toList ++ st) h')) := e_invokevirtual3 rfl
theorem k215_1 : b215 (Int.toNat (.ofNat 1)) = b215_1 := rfl
theorem k215_2 : b215 (Int.toNat (.ofNat 2)) = b215_2 := rfl
theorem m216 : Call (pG L xs) pM (d + 1) 216 as h Q = ((xent as).length ≤ 3 ∧ Ev (pG L xs) pM d b216 (some FieldType.int) Q b216_0 (xentry as 3) [] h) := rfl
theorem v216 {a0 : Nat} {a1 a2 : Value} : Ev (pG L xs) pM d B rt Q (.invokevirtual 216 :: is) ls (a2 :: a1 :: .ref a0 :: st) h = ((xis h a0 (.inr 12) ∧ (st.map fun v => v.category).sum ≤ 8) ∧ Call (pG L xs) pM d 216 [.ref a0, a1, a2] h (fun v h' => Ev (pG L xs) pM d B rt Q is ls (v.toList ++ st) h')) := e_invokevirtual3 rfl
theorem k216_1 : b216 (Int.toNat (.ofNat 1)) = b216_1 := rfl
theorem k216_2 : b216 (Int.toNat (.ofNat 2)) = b216_2 := rfl
theorem m217 : Call (pG L xs) pM (d + 1) 217 as h Q = ((xent as).length ≤ 3 ∧ Ev (pG L xs) pM d b217 (none) Q b217_0 (xentry as 3) [] h) := rfl
theorem v217 {a0 : Nat} {a1 : Value} : Ev (pG L xs) pM d B rt Q (.invokevirtual 217 :: is) ls (a1 :: .ref a0 :: st) h = ((xis h a0 (.inr 12) ∧ (st.map fun v => v.category).sum ≤ 8) ∧ Call (pG L xs) pM d 217 [.ref a0, a1] h (fun v h' => Ev (pG L xs) pM d B rt Q is ls (v.toList ++ st) h')) := e_invokevirtual2 rfl
theorem m218 : Call (pG L xs) pM (d + 1) 218 as h Q = ((xent as).length ≤ 4 ∧ Ev (pG L xs) pM d b218 (none) Q b218_0 (xentry as 4) [] h) := rfl
theorem v218 {a0 : Nat} {a1 a2 a3 : Value} : Ev (pG L xs) pM d B rt Q (.invokevirtual 218 :: is) ls (a3 :: a2 :: a1 :: .ref a0 :: st) h = ((xis h a0 (.inr 12) ∧ (st.map fun v => v.category).sum ≤ 8) ∧ Call (pG L xs) pM d 218 [.ref a0, a1, a2, a3] h (fun v h' => Ev (pG L xs) pM d B rt Q is ls (v.toList ++ st) h')) := e_invokevirtual4 rfl
theorem m219 : Call (pG L xs) pM (d + 1) 219 as h Q = ((xent as).length ≤ 3 ∧ Ev (pG L xs) pM d b219 (none) Q b219_0 (xentry as 3) [] h) := rfl
theorem v219 {a0 : Nat} {a1 a2 : Value} : Ev (pG L xs) pM d B rt Q (.invokevirtual 219 :: is) ls (a2 :: a1 :: .ref a0 :: st) h = ((xis h a0 (.inr 12) ∧ (st.map fun v => v.category).sum ≤ 8) ∧ Call (pG L xs) pM d 219 [.ref a0, a1, a2] h (fun v h' => Ev (pG L xs) pM d B rt Q is ls (v.toList ++ st) h')) := e_invokevirtual3 rfl
theorem k219_1 : b219 (Int.toNat (.ofNat 1)) = b219_1 := rfl
theorem m220 : Call (pG L xs) pM (d + 1) 220 as h Q = ((xent as).length ≤ 4 ∧ Ev (pG L xs) pM d b220 (some FieldType.long) Q b220_0 (xentry as 4) [] h) := rfl
theorem v220 {a0 : Nat} {a1 : Value} : Ev (pG L xs) pM d B rt Q (.invokevirtual 220 :: is) ls (a1 :: .ref a0 :: st) h = ((xis h a0 (.inr 12) ∧ (st.map fun v => v.category).sum ≤ 8) ∧ Call (pG L xs) pM d 220 [.ref a0, a1] h (fun v h' => Ev (pG L xs) pM d B rt Q is ls (v.toList ++ st) h')) := e_invokevirtual2 rfl
theorem k220_1 : b220 (Int.toNat (.ofNat 1)) = b220_1 := rfl
theorem k220_2 : b220 (Int.toNat (.ofNat 2)) = b220_2 := rfl
theorem k220_3 : b220 (Int.toNat (.ofNat 3)) = b220_3 := rfl
theorem k220_4 : b220 (Int.toNat (.ofNat 4)) = b220_4 := rfl
theorem k220_0 : b220 (Int.toNat (.ofNat 0)) = b220_0 := rfl
theorem m221 : Call (pG L xs) pM (d + 1) 221 as h Q = ((xent as).length ≤ 3 ∧ Ev (pG L xs) pM d b221 (some FieldType.long) Q b221_0 (xentry as 3) [] h) := rfl
theorem v221 {a0 : Nat} {a1 a2 : Value} : Ev (pG L xs) pM d B rt Q (.invokevirtual 221 :: is) ls (a2 :: a1 :: .ref a0 :: st) h = ((xis h a0 (.inr 12) ∧ (st.map fun v => v.category).sum ≤ 8) ∧ Call (pG L xs) pM d 221 [.ref a0, a1, a2] h (fun v h' => Ev (pG L xs) pM d B rt Q is ls (v.toList ++ st) h')) := e_invokevirtual3 rfl
theorem k221_1 : b221 (Int.toNat (.ofNat 1)) = b221_1 := rfl
theorem k221_2 : b221 (Int.toNat (.ofNat 2)) = b221_2 := rfl
theorem k221_3 : b221 (Int.toNat (.ofNat 3)) = b221_3 := rfl
theorem k221_4 : b221 (Int.toNat (.ofNat 4)) = b221_4 := rfl
theorem k221_5 : b221 (Int.toNat (.ofNat 5)) = b221_5 := rfl
theorem k221_6 : b221 (Int.toNat (.ofNat 6)) = b221_6 := rfl
theorem k221_7 : b221 (Int.toNat (.ofNat 7)) = b221_7 := rfl
theorem k221_0 : b221 (Int.toNat (.ofNat 0)) = b221_0 := rfl
theorem m222 : Call (pG L xs) pM (d + 1) 222 as h Q = ((xent as).length ≤ 9 ∧ Ev (pG L xs) pM d b222 (some FieldType.int) Q b222_0 (xentry as 9) [] h) := rfl
theorem v222 {a0 : Nat} {a1 : Value} : Ev (pG L xs) pM d B rt Q (.invokevirtual 222 :: is) ls (a1 :: .ref a0 :: st) h = ((xis h a0 (.inr 12) ∧ (st.map fun v => v.category).sum ≤ 8) ∧ Call (pG L xs) pM d 222 [.ref a0, a1] h (fun v h' => Ev (pG L xs) pM d B rt Q is ls (v.toList ++ st) h')) := e_invokevirtual2 rfl
theorem k222_1 : b222 (Int.toNat (.ofNat 1)) = b222_1 := rfl
theorem k222_2 : b222 (Int.toNat (.ofNat 2)) = b222_2 := rfl
theorem k222_3 : b222 (Int.toNat (.ofNat 3)) = b222_3 := rfl
theorem k222_4 : b222 (Int.toNat (.ofNat 4)) = b222_4 := rfl
theorem k222_5 : b222 (Int.toNat (.ofNat 5)) = b222_5 := rfl
theorem k222_6 : b222 (Int.toNat (.ofNat 6)) = b222_6 := rfl
theorem k222_7 : b222 (Int.toNat (.ofNat 7)) = b222_7 := rfl
theorem k222_8 : b222 (Int.toNat (.ofNat 8)) = b222_8 := rfl
theorem k222_0 : b222 (Int.toNat (.ofNat 0)) = b222_0 := rfl
theorem m223 : Call (pG L xs) pM (d + 1) 223 as h Q = ((xent as).length ≤ 3 ∧ Ev (pG L xs) pM d b223 (some FieldType.int) Q b223_0 (xentry as 3) [] h) := rfl
theorem v223 {a0 : Nat}  : Ev (pG L xs) pM d B rt Q (.invokevirtual 223 :: is) ls (.ref a0 :: st) h = ((xis h a0 (.inr 12) ∧ (st.map fun v => v.category).sum ≤ 8) ∧ Call (pG L xs) pM d 223 [.ref a0] h (fun v h' => Ev (pG L xs) pM d B rt Q is ls (v.toList ++ st) h')) := e_invokevirtual1 rfl
theorem k223_1 : b223 (Int.toNat (.ofNat 1)) = b223_1 := rfl
theorem k223_2 : b223 (Int.toNat (.ofNat 2)) = b223_2 := rfl
theorem k223_3 : b223 (Int.toNat (.ofNat 3)) = b223_3 := rfl
theorem k223_4 : b223 (Int.toNat (.ofNat 4)) = b223_4 := rfl
theorem k223_5 : b223 (Int.toNat (.ofNat 5)) = b223_5 := rfl
theorem k223_6 : b223 (Int.toNat (.ofNat 6)) = b223_6 := rfl
theorem k223_7 : b223 (Int.toNat (.ofNat 7)) = b223_7 := rfl
theorem k223_8 : b223 (Int.toNat (.ofNat 8)) = b223_8 := rfl
theorem k223_0 : b223 (Int.toNat (.ofNat 0)) = b223_0 := rfl
theorem m224 : Call (pG L xs) pM (d + 1) 224 as h Q = ((xent as).length ≤ 2 ∧ Ev (pG L xs) pM d b224 (none) Q b224_0 (xentry as 2) [] h) := rfl
theorem v224 {a0 : Nat}  : Ev (pG L xs) pM d B rt Q (.invokevirtual 224 :: is) ls (.ref a0 :: st) h = ((xis h a0 (.inr 12) ∧ (st.map fun v => v.category).sum ≤ 8) ∧ Call (pG L xs) pM d 224 [.ref a0] h (fun v h' => Ev (pG L xs) pM d B rt Q is ls (v.toList ++ st) h')) := e_invokevirtual1 rfl
theorem k224_1 : b224 (Int.toNat (.ofNat 1)) = b224_1 := rfl
theorem k224_2 : b224 (Int.toNat (.ofNat 2)) = b224_2 := rfl
theorem k224_3 : b224 (Int.toNat (.ofNat 3)) = b224_3 := rfl
theorem k224_4 : b224 (Int.toNat (.ofNat 4)) = b224_4 := rfl
theorem k224_5 : b224 (Int.toNat (.ofNat 5)) = b224_5 := rfl
theorem k224_0 : b224 (Int.toNat (.ofNat 0)) = b224_0 := rfl
theorem m225 : Call (pG L xs) pM (d + 1) 225 as h Q = ((xent as).length ≤ 2 ∧ Ev (pG L xs) pM d b225 (some FieldType.int) Q b225_0 (xentry as 2) [] h) := rfl
theorem v225 {a0 : Nat}  : Ev (pG L xs) pM d B rt Q (.invokevirtual 225 :: is) ls (.ref a0 :: st) h = ((xis h a0 (.inr 12) ∧ (st.map fun v => v.category).sum ≤ 8) ∧ Call (pG L xs) pM d 225 [.ref a0] h (fun v h' => Ev (pG L xs) pM d B rt Q is ls (v.toList ++ st) h')) := e_invokevirtual1 rfl
theorem k225_1 : b225 (Int.toNat (.ofNat 1)) = b225_1 := rfl
theorem k225_2 : b225 (Int.toNat (.ofNat 2)) = b225_2 := rfl
theorem k225_3 : b225 (Int.toNat (.ofNat 3)) = b225_3 := rfl
theorem k225_0 : b225 (Int.toNat (.ofNat 0)) = b225_0 := rfl
theorem m226 : Call (pG L xs) pM (d + 1) 226 as h Q = ((xent as).length ≤ 1 ∧ Ev (pG L xs) pM d b226 (some FieldType.int) Q b226_0 (xentry as 1) [] h) := rfl
theorem v226 {a0 : Nat}  : Ev (pG L xs) pM d B rt Q (.invokevirtual 226 :: is) ls (.ref a0 :: st) h = ((xis h a0 (.inr 12) ∧ (st.map fun v => v.category).sum ≤ 8) ∧ Call (pG L xs) pM d 226 [.ref a0] h (fun v h' => Ev (pG L xs) pM d B rt Q is ls (v.toList ++ st) h')) := e_invokevirtual1 rfl
theorem k226_1 : b226 (Int.toNat (.ofNat 1)) = b226_1 := rfl
theorem k226_2 : b226 (Int.toNat (.ofNat 2)) = b226_2 := rfl
theorem m227 : Call (pG L xs) pM (d + 1) 227 as h Q = ((xent as).length ≤ 3 ∧ Ev (pG L xs) pM d b227 (some FieldType.int) Q b227_0 (xentry as 3) [] h) := rfl
theorem v227 {a0 : Nat} {a1 a2 : Value} : Ev (pG L xs) pM d B rt Q (.invokevirtual 227 :: is) ls (a2 :: a1 :: .ref a0 :: st) h = ((xis h a0 (.inr 12) ∧ (st.map fun v => v.category).sum ≤ 8) ∧ Call (pG L xs) pM d 227 [.ref a0, a1, a2] h (fun v h' => Ev (pG L xs) pM d B rt Q is ls (v.toList ++ st) h')) := e_invokevirtual3 rfl
theorem k227_1 : b227 (Int.toNat (.ofNat 1)) = b227_1 := rfl
theorem k227_2 : b227 (Int.toNat (.ofNat 2)) = b227_2 := rfl
theorem m228 : Call (pG L xs) pM (d + 1) 228 as h Q = ((xent as).length ≤ 5 ∧ Ev (pG L xs) pM d b228 (some FieldType.int) Q b228_0 (xentry as 5) [] h) := rfl
theorem v228 {a0 : Nat} {a1 a2 a3 : Value} : Ev (pG L xs) pM d B rt Q (.invokevirtual 228 :: is) ls (a3 :: a2 :: a1 :: .ref a0 :: st) h = ((xis h a0 (.inr 12) ∧ (st.map fun v => v.category).sum ≤ 8) ∧ Call (pG L xs) pM d 228 [.ref a0, a1, a2, a3] h (fun v h' => Ev (pG L xs) pM d B rt Q is ls (v.toList ++ st) h')) := e_invokevirtual4 rfl
theorem k228_1 : b228 (Int.toNat (.ofNat 1)) = b228_1 := rfl
theorem k228_2 : b228 (Int.toNat (.ofNat 2)) = b228_2 := rfl
theorem k228_0 : b228 (Int.toNat (.ofNat 0)) = b228_0 := rfl
theorem m229 : Call (pG L xs) pM (d + 1) 229 as h Q = ((xent as).length ≤ 4 ∧ Ev (pG L xs) pM d b229 (some FieldType.int) Q b229_0 (xentry as 4) [] h) := rfl
theorem v229 {a0 : Nat} {a1 a2 a3 : Value} : Ev (pG L xs) pM d B rt Q (.invokevirtual 229 :: is) ls (a3 :: a2 :: a1 :: .ref a0 :: st) h = ((xis h a0 (.inr 12) ∧ (st.map fun v => v.category).sum ≤ 8) ∧ Call (pG L xs) pM d 229 [.ref a0, a1, a2, a3] h (fun v h' => Ev (pG L xs) pM d B rt Q is ls (v.toList ++ st) h')) := e_invokevirtual4 rfl
theorem k229_1 : b229 (Int.toNat (.ofNat 1)) = b229_1 := rfl
theorem k229_2 : b229 (Int.toNat (.ofNat 2)) = b229_2 := rfl
theorem m230 : Call (pG L xs) pM (d + 1) 230 as h Q = ((xent as).length ≤ 3 ∧ Ev (pG L xs) pM d b230 (some FieldType.int) Q b230_0 (xentry as 3) [] h) := rfl
theorem v230 {a0 : Nat} {a1 : Value} : Ev (pG L xs) pM d B rt Q (.invokevirtual 230 :: is) ls (a1 :: .ref a0 :: st) h = ((xis h a0 (.inr 12) ∧ (st.map fun v => v.category).sum ≤ 8) ∧ Call (pG L xs) pM d 230 [.ref a0, a1] h (fun v h' => Ev (pG L xs) pM d B rt Q is ls (v.toList ++ st) h')) := e_invokevirtual2 rfl
theorem k230_1 : b230 (Int.toNat (.ofNat 1)) = b230_1 := rfl
theorem k230_2 : b230 (Int.toNat (.ofNat 2)) = b230_2 := rfl
theorem k230_0 : b230 (Int.toNat (.ofNat 0)) = b230_0 := rfl
theorem m231 : Call (pG L xs) pM (d + 1) 231 as h Q = ((xent as).length ≤ 2 ∧ Ev (pG L xs) pM d b231 (none) Q b231_0 (xentry as 2) [] h) := rfl
theorem v231 {a0 : Nat}  : Ev (pG L xs) pM d B rt Q (.invokevirtual 231 :: is) ls (.ref a0 :: st) h = ((xis h a0 (.inr 12) ∧ (st.map fun v => v.category).sum ≤ 8) ∧ Call (pG L xs) pM d 231 [.ref a0] h (fun v h' => Ev (pG L xs) pM d B rt Q is ls (v.toList ++ st) h')) := e_invokevirtual1 rfl
theorem k231_1 : b231 (Int.toNat (.ofNat 1)) = b231_1 := rfl
theorem k231_2 : b231 (Int.toNat (.ofNat 2)) = b231_2 := rfl
theorem k231_0 : b231 (Int.toNat (.ofNat 0)) = b231_0 := rfl
theorem m232 : Call (pG L xs) pM (d + 1) 232 as h Q = ((xent as).length ≤ 2 ∧ Ev (pG L xs) pM d b232 (none) Q b232_0 (xentry as 2) [] h) := rfl
theorem v232 {a0 : Nat}  : Ev (pG L xs) pM d B rt Q (.invokevirtual 232 :: is) ls (.ref a0 :: st) h = ((xis h a0 (.inr 12) ∧ (st.map fun v => v.category).sum ≤ 8) ∧ Call (pG L xs) pM d 232 [.ref a0] h (fun v h' => Ev (pG L xs) pM d B rt Q is ls (v.toList ++ st) h')) := e_invokevirtual1 rfl
theorem k232_1 : b232 (Int.toNat (.ofNat 1)) = b232_1 := rfl
theorem k232_2 : b232 (Int.toNat (.ofNat 2)) = b232_2 := rfl
theorem k232_0 : b232 (Int.toNat (.ofNat 0)) = b232_0 := rfl
theorem m233 : Call (pG L xs) pM (d + 1) 233 as h Q = ((xent as).length ≤ 5 ∧ Ev (pG L xs) pM d b233 (some FieldType.int) Q b233_0 (xentry as 5) [] h) := rfl
theorem v233 {a0 : Nat} {a1 a2 a3 : Value} : Ev (pG L xs) pM d B rt Q (.invokevirtual 233 :: is) ls (a3 :: a2 :: a1 :: .ref a0 :: st) h = ((xis h a0 (.inr 12) ∧ (st.map fun v => v.category).sum ≤ 8) ∧ Call (pG L xs) pM d 233 [.ref a0, a1, a2, a3] h (fun v h' => Ev (pG L xs) pM d B rt Q is ls (v.toList ++ st) h')) := e_invokevirtual4 rfl
theorem k233_1 : b233 (Int.toNat (.ofNat 1)) = b233_1 := rfl
theorem k233_2 : b233 (Int.toNat (.ofNat 2)) = b233_2 := rfl
theorem k233_3 : b233 (Int.toNat (.ofNat 3)) = b233_3 := rfl
theorem k233_4 : b233 (Int.toNat (.ofNat 4)) = b233_4 := rfl
theorem k233_5 : b233 (Int.toNat (.ofNat 5)) = b233_5 := rfl
theorem k233_6 : b233 (Int.toNat (.ofNat 6)) = b233_6 := rfl
theorem k233_7 : b233 (Int.toNat (.ofNat 7)) = b233_7 := rfl
theorem k233_0 : b233 (Int.toNat (.ofNat 0)) = b233_0 := rfl
theorem m234 : Call (pG L xs) pM (d + 1) 234 as h Q = ((xent as).length ≤ 3 ∧ Ev (pG L xs) pM d b234 (some FieldType.int) Q b234_0 (xentry as 3) [] h) := rfl
theorem v234 {a0 : Nat}  : Ev (pG L xs) pM d B rt Q (.invokevirtual 234 :: is) ls (.ref a0 :: st) h = ((xis h a0 (.inr 12) ∧ (st.map fun v => v.category).sum ≤ 8) ∧ Call (pG L xs) pM d 234 [.ref a0] h (fun v h' => Ev (pG L xs) pM d B rt Q is ls (v.toList ++ st) h')) := e_invokevirtual1 rfl
theorem k234_1 : b234 (Int.toNat (.ofNat 1)) = b234_1 := rfl
theorem k234_2 : b234 (Int.toNat (.ofNat 2)) = b234_2 := rfl
theorem k234_3 : b234 (Int.toNat (.ofNat 3)) = b234_3 := rfl
theorem k234_4 : b234 (Int.toNat (.ofNat 4)) = b234_4 := rfl
theorem k234_0 : b234 (Int.toNat (.ofNat 0)) = b234_0 := rfl
theorem m235 : Call (pG L xs) pM (d + 1) 235 as h Q = ((xent as).length ≤ 4 ∧ Ev (pG L xs) pM d b235 (none) Q b235_0 (xentry as 4) [] h) := rfl
theorem v235 {a0 : Nat}  : Ev (pG L xs) pM d B rt Q (.invokevirtual 235 :: is) ls (.ref a0 :: st) h = ((xis h a0 (.inr 12) ∧ (st.map fun v => v.category).sum ≤ 8) ∧ Call (pG L xs) pM d 235 [.ref a0] h (fun v h' => Ev (pG L xs) pM d B rt Q is ls (v.toList ++ st) h')) := e_invokevirtual1 rfl
theorem k235_1 : b235 (Int.toNat (.ofNat 1)) = b235_1 := rfl
theorem k235_2 : b235 (Int.toNat (.ofNat 2)) = b235_2 := rfl
theorem k235_3 : b235 (Int.toNat (.ofNat 3)) = b235_3 := rfl
theorem k235_4 : b235 (Int.toNat (.ofNat 4)) = b235_4 := rfl
theorem k235_5 : b235 (Int.toNat (.ofNat 5)) = b235_5 := rfl
theorem k235_6 : b235 (Int.toNat (.ofNat 6)) = b235_6 := rfl
theorem k235_7 : b235 (Int.toNat (.ofNat 7)) = b235_7 := rfl
theorem k235_8 : b235 (Int.toNat (.ofNat 8)) = b235_8 := rfl
theorem k235_0 : b235 (Int.toNat (.ofNat 0)) = b235_0 := rfl
theorem m236 : Call (pG L xs) pM (d + 1) 236 as h Q = ((xent as).length ≤ 3 ∧ Ev (pG L xs) pM d b236 (none) Q b236_0 (xentry as 3) [] h) := rfl
theorem v236 {a0 : Nat} {a1 : Value} : Ev (pG L xs) pM d B rt Q (.invokevirtual 236 :: is) ls (a1 :: .ref a0 :: st) h = ((xis h a0 (.inr 12) ∧ (st.map fun v => v.category).sum ≤ 8) ∧ Call (pG L xs) pM d 236 [.ref a0, a1] h (fun v h' => Ev (pG L xs) pM d B rt Q is ls (v.toList ++ st) h')) := e_invokevirtual2 rfl
theorem k236_1 : b236 (Int.toNat (.ofNat 1)) = b236_1 := rfl
theorem m237 : Call (pG L xs) pM (d + 1) 237 as h Q = ((xent as).length ≤ 3 ∧ Ev (pG L xs) pM d b237 (some FieldType.boolean) Q b237_0 (xentry as 3) [] h) := rfl
theorem v237 {a0 : Nat} {a1 : Value} : Ev (pG L xs) pM d B rt Q (.invokevirtual 237 :: is) ls (a1 :: .ref a0 :: st) h = ((xis h a0 (.inr 12) ∧ (st.map fun v => v.category).sum ≤ 8) ∧ Call (pG L xs) pM d 237 [.ref a0, a1] h (fun v h' => Ev (pG L xs) pM d B rt Q is ls (v.toList ++ st) h')) := e_invokevirtual2 rfl
theorem k237_1 : b237 (Int.toNat (.ofNat 1)) = b237_1 := rfl
theorem k237_2 : b237 (Int.toNat (.ofNat 2)) = b237_2 := rfl
theorem k237_3 : b237 (Int.toNat (.ofNat 3)) = b237_3 := rfl
theorem k237_4 : b237 (Int.toNat (.ofNat 4)) = b237_4 := rfl
theorem k237_5 : b237 (Int.toNat (.ofNat 5)) = b237_5 := rfl
theorem k237_6 : b237 (Int.toNat (.ofNat 6)) = b237_6 := rfl
theorem k237_7 : b237 (Int.toNat (.ofNat 7)) = b237_7 := rfl
theorem k237_8 : b237 (Int.toNat (.ofNat 8)) = b237_8 := rfl
theorem k237_0 : b237 (Int.toNat (.ofNat 0)) = b237_0 := rfl
theorem m238 : Call (pG L xs) pM (d + 1) 238 as h Q = ((xent as).length ≤ 3 ∧ Ev (pG L xs) pM d b238 (some FieldType.int) Q b238_0 (xentry as 3) [] h) := rfl
theorem v238 {a0 : Nat} {a1 : Value} : Ev (pG L xs) pM d B rt Q (.invokevirtual 238 :: is) ls (a1 :: .ref a0 :: st) h = ((xis h a0 (.inr 12) ∧ (st.map fun v => v.category).sum ≤ 8) ∧ Call (pG L xs) pM d 238 [.ref a0, a1] h (fun v h' => Ev (pG L xs) pM d B rt Q is ls (v.toList ++ st) h')) := e_invokevirtual2 rfl
theorem k238_1 : b238 (Int.toNat (.ofNat 1)) = b238_1 := rfl
theorem k238_2 : b238 (Int.toNat (.ofNat 2)) = b238_2 := rfl
theorem k238_3 : b238 (Int.toNat (.ofNat 3)) = b238_3 := rfl
theorem k238_0 : b238 (Int.toNat (.ofNat 0)) = b238_0 := rfl
theorem m239 : Call (pG L xs) pM (d + 1) 239 as h Q = ((xent as).length ≤ 3 ∧ Ev (pG L xs) pM d b239 (some FieldType.int) Q b239_0 (xentry as 3) [] h) := rfl
theorem v239 {a0 : Nat} {a1 : Value} : Ev (pG L xs) pM d B rt Q (.invokevirtual 239 :: is) ls (a1 :: .ref a0 :: st) h = ((xis h a0 (.inr 12) ∧ (st.map fun v => v.category).sum ≤ 8) ∧ Call (pG L xs) pM d 239 [.ref a0, a1] h (fun v h' => Ev (pG L xs) pM d B rt Q is ls (v.toList ++ st) h')) := e_invokevirtual2 rfl
theorem k239_1 : b239 (Int.toNat (.ofNat 1)) = b239_1 := rfl
theorem k239_2 : b239 (Int.toNat (.ofNat 2)) = b239_2 := rfl
theorem m240 : Call (pG L xs) pM (d + 1) 240 as h Q = ((xent as).length ≤ 3 ∧ Ev (pG L xs) pM d b240 (none) Q b240_0 (xentry as 3) [] h) := rfl
theorem v240 {a0 : Nat}  : Ev (pG L xs) pM d B rt Q (.invokevirtual 240 :: is) ls (.ref a0 :: st) h = ((xis h a0 (.inr 12) ∧ (st.map fun v => v.category).sum ≤ 8) ∧ Call (pG L xs) pM d 240 [.ref a0] h (fun v h' => Ev (pG L xs) pM d B rt Q is ls (v.toList ++ st) h')) := e_invokevirtual1 rfl
theorem k240_1 : b240 (Int.toNat (.ofNat 1)) = b240_1 := rfl
theorem k240_2 : b240 (Int.toNat (.ofNat 2)) = b240_2 := rfl
theorem k240_3 : b240 (Int.toNat (.ofNat 3)) = b240_3 := rfl
theorem k240_4 : b240 (Int.toNat (.ofNat 4)) = b240_4 := rfl
theorem k240_5 : b240 (Int.toNat (.ofNat 5)) = b240_5 := rfl
theorem k240_6 : b240 (Int.toNat (.ofNat 6)) = b240_6 := rfl
theorem k240_7 : b240 (Int.toNat (.ofNat 7)) = b240_7 := rfl
theorem k240_0 : b240 (Int.toNat (.ofNat 0)) = b240_0 := rfl
theorem m241 : Call (pG L xs) pM (d + 1) 241 as h Q = ((xent as).length ≤ 2 ∧ Ev (pG L xs) pM d b241 (some FieldType.int) Q b241_0 (xentry as 2) [] h) := rfl
theorem v241 {a0 : Nat} {a1 : Value} : Ev (pG L xs) pM d B rt Q (.invokevirtual 241 :: is) ls (a1 :: .ref a0 :: st) h = ((xis h a0 (.inr 12) ∧ (st.map fun v => v.category).sum ≤ 8) ∧ Call (pG L xs) pM d 241 [.ref a0, a1] h (fun v h' => Ev (pG L xs) pM d B rt Q is ls (v.toList ++ st) h')) := e_invokevirtual2 rfl
theorem k241_1 : b241 (Int.toNat (.ofNat 1)) = b241_1 := rfl
theorem k241_2 : b241 (Int.toNat (.ofNat 2)) = b241_2 := rfl
theorem k241_3 : b241 (Int.toNat (.ofNat 3)) = b241_3 := rfl
theorem k241_4 : b241 (Int.toNat (.ofNat 4)) = b241_4 := rfl
theorem k241_5 : b241 (Int.toNat (.ofNat 5)) = b241_5 := rfl
theorem k241_6 : b241 (Int.toNat (.ofNat 6)) = b241_6 := rfl
theorem k241_7 : b241 (Int.toNat (.ofNat 7)) = b241_7 := rfl
theorem k241_0 : b241 (Int.toNat (.ofNat 0)) = b241_0 := rfl
theorem m242 : Call (pG L xs) pM (d + 1) 242 as h Q = ((xent as).length ≤ 4 ∧ Ev (pG L xs) pM d b242 (some FieldType.int) Q b242_0 (xentry as 4) [] h) := rfl
theorem v242 {a0 : Nat} {a1 a2 a3 : Value} : Ev (pG L xs) pM d B rt Q (.invokevirtual 242 :: is) ls (a3 :: a2 :: a1 :: .ref a0 :: st) h = ((xis h a0 (.inr 12) ∧ (st.map fun v => v.category).sum ≤ 8) ∧ Call (pG L xs) pM d 242 [.ref a0, a1, a2, a3] h (fun v h' => Ev (pG L xs) pM d B rt Q is ls (v.toList ++ st) h')) := e_invokevirtual4 rfl
theorem k242_1 : b242 (Int.toNat (.ofNat 1)) = b242_1 := rfl
theorem k242_2 : b242 (Int.toNat (.ofNat 2)) = b242_2 := rfl
theorem m243 : Call (pG L xs) pM (d + 1) 243 as h Q = ((xent as).length ≤ 6 ∧ Ev (pG L xs) pM d b243 (some FieldType.boolean) Q b243_0 (xentry as 6) [] h) := rfl
theorem v243 {a0 : Nat} {a1 a2 a3 a4 : Value} : Ev (pG L xs) pM d B rt Q (.invokevirtual 243 :: is) ls (a4 :: a3 :: a2 :: a1 :: .ref a0 :: st) h = ((xis h a0 (.inr 12) ∧ (st.map fun v => v.category).sum ≤ 8) ∧ Call (pG L xs) pM d 243 [.ref a0, a1, a2, a3, a4] h (fun v h' => Ev (pG L xs) pM d B rt Q is ls (v.toList ++ st) h')) := e_invokevirtual5 rfl
theorem k243_1 : b243 (Int.toNat (.ofNat 1)) = b243_1 := rfl
theorem k243_2 : b243 (Int.toNat (.ofNat 2)) = b243_2 := rfl
theorem k243_0 : b243 (Int.toNat (.ofNat 0)) = b243_0 := rfl
theorem m244 : Call (pG L xs) pM (d + 1) 244 as h Q = ((xent as).length ≤ 5 ∧ Ev (pG L xs) pM d b244 (some FieldType.boolean) Q b244_0 (xentry as 5) [] h) := rfl
theorem v244 {a0 : Nat} {a1 a2 : Value} : Ev (pG L xs) pM d B rt Q (.invokevirtual 244 :: is) ls (a2 :: a1 :: .ref a0 :: st) h = ((xis h a0 (.inr 12) ∧ (st.map fun v => v.category).sum ≤ 8) ∧ Call (pG L xs) pM d 244 [.ref a0, a1, a2] h (fun v h' => Ev (pG L xs) pM d B rt Q is ls (v.toList ++ st) h')) := e_invokevirtual3 rfl
theorem k244_1 : b244 (Int.toNat (.ofNat 1)) = b244_1 := rfl
theorem k244_2 : b244 (Int.toNat (.ofNat 2)) = b244_2 := rfl
theorem k244_3 : b244 (Int.toNat (.ofNat 3)) = b244_3 := rfl
theorem k244_4 : b244 (Int.toNat (.ofNat 4)) = b244_4 := rfl
theorem k244_5 : b244 (Int.toNat (.ofNat 5)) = b244_5 := rfl
theorem k244_0 : b244 (Int.toNat (.ofNat 0)) = b244_0 := rfl
theorem m245 : Call (pG L xs) pM (d + 1) 245 as h Q = ((xent as).length ≤ 4 ∧ Ev (pG L xs) pM d b245 (none) Q b245_0 (xentry as 4) [] h) := rfl
theorem v245 {a0 : Nat}  : Ev (pG L xs) pM d B rt Q (.invokevirtual 245 :: is) ls (.ref a0 :: st) h = ((xis h a0 (.inr 12) ∧ (st.map fun v => v.category).sum ≤ 8) ∧ Call (pG L xs) pM d 245 [.ref a0] h (fun v h' => Ev (pG L xs) pM d B rt Q is ls (v.toList ++ st) h')) := e_invokevirtual1 rfl
theorem k245_1 : b245 (Int.toNat (.ofNat 1)) = b245_1 := rfl
theorem k245_2 : b245 (Int.toNat (.ofNat 2)) = b245_2 := rfl
theorem k245_3 : b245 (Int.toNat (.ofNat 3)) = b245_3 := rfl
theorem k245_4 : b245 (Int.toNat (.ofNat 4)) = b245_4 := rfl
theorem k245_5 : b245 (Int.toNat (.ofNat 5)) = b245_5 := rfl
theorem k245_6 : b245 (Int.toNat (.ofNat 6)) = b245_6 := rfl
theorem k245_7 : b245 (Int.toNat (.ofNat 7)) = b245_7 := rfl
theorem k245_8 : b245 (Int.toNat (.ofNat 8)) = b245_8 := rfl
theorem k245_9 : b245 (Int.toNat (.ofNat 9)) = b245_9 := rfl
theorem k245_10 : b245 (Int.toNat (.ofNat 10)) = b245_10 := rfl
theorem k245_0 : b245 (Int.toNat (.ofNat 0)) = b245_0 := rfl
theorem m246 : Call (pG L xs) pM (d + 1) 246 as h Q = ((xent as).length ≤ 4 ∧ Ev (pG L xs) pM d b246 (some FieldType.int) Q b246_0 (xentry as 4) [] h) := rfl
theorem v246 {a0 : Nat}  : Ev (pG L xs) pM d B rt Q (.invokevirtual 246 :: is) ls (.ref a0 :: st) h = ((xis h a0 (.inr 12) ∧ (st.map fun v => v.category).sum ≤ 8) ∧ Call (pG L xs) pM d 246 [.ref a0] h (fun v h' => Ev (pG L xs) pM d B rt Q is ls (v.toList ++ st) h')) := e_invokevirtual1 rfl
theorem k246_1 : b246 (Int.toNat (.ofNat 1)) = b246_1 := rfl
theorem k246_2 : b246 (Int.toNat (.ofNat 2)) = b246_2 := rfl
theorem k246_3 : b246 (Int.toNat (.ofNat 3)) = b246_3 := rfl
theorem k246_4 : b246 (Int.toNat (.ofNat 4)) = b246_4 := rfl
theorem k246_5 : b246 (Int.toNat (.ofNat 5)) = b246_5 := rfl
theorem k246_6 : b246 (Int.toNat (.ofNat 6)) = b246_6 := rfl
theorem k246_7 : b246 (Int.toNat (.ofNat 7)) = b246_7 := rfl
theorem k246_8 : b246 (Int.toNat (.ofNat 8)) = b246_8 := rfl
theorem k246_0 : b246 (Int.toNat (.ofNat 0)) = b246_0 := rfl
theorem m247 : Call (pG L xs) pM (d + 1) 247 as h Q = ((xent as).length ≤ 3 ∧ Ev (pG L xs) pM d b247 (some FieldType.int) Q b247_0 (xentry as 3) [] h) := rfl
theorem v247 {a0 : Nat} {a1 : Value} : Ev (pG L xs) pM d B rt Q (.invokevirtual 247 :: is) ls (a1 :: .ref a0 :: st) h = ((xis h a0 (.inr 12) ∧ (st.map fun v => v.category).sum ≤ 8) ∧ Call (pG L xs) pM d 247 [.ref a0, a1] h (fun v h' => Ev (pG L xs) pM d B rt Q is ls (v.toList ++ st) h')) := e_invokevirtual2 rfl
theorem k247_1 : b247 (Int.toNat (.ofNat 1)) = b247_1 := rfl
theorem k247_2 : b247 (Int.toNat (.ofNat 2)) = b247_2 := rfl
theorem k247_3 : b247 (Int.toNat (.ofNat 3)) = b247_3 := rfl
theorem k247_4 : b247 (Int.toNat (.ofNat 4)) = b247_4 := rfl
theorem k247_5 : b247 (Int.toNat (.ofNat 5)) = b247_5 := rfl
theorem k247_6 : b247 (Int.toNat (.ofNat 6)) = b247_6 := rfl
theorem k247_7 : b247 (Int.toNat (.ofNat 7)) = b247_7 := rfl
theorem k247_0 : b247 (Int.toNat (.ofNat 0)) = b247_0 := rfl
theorem m248 : Call (pG L xs) pM (d + 1) 248 as h Q = ((xent as).length ≤ 3 ∧ Ev (pG L xs) pM d b248 (some FieldType.boolean) Q b248_0 (xentry as 3) [] h) := rfl
theorem v248 {a0 : Nat} {a1 a2 : Value} : Ev (pG L xs) pM d B rt Q (.invokevirtual 248 :: is) ls (a2 :: a1 :: .ref a0 :: st) h = ((xis h a0 (.inr 12) ∧ (st.map fun v => v.category).sum ≤ 8) ∧ Call (pG L xs) pM d 248 [.ref a0, a1, a2] h (fun v h' => Ev (pG L xs) pM d B rt Q is ls (v.toList ++ st) h')) := e_invokevirtual3 rfl
theorem k248_1 : b248 (Int.toNat (.ofNat 1)) = b248_1 := rfl
theorem k248_2 : b248 (Int.toNat (.ofNat 2)) = b248_2 := rfl
theorem k248_0 : b248 (Int.toNat (.ofNat 0)) = b248_0 := rfl
theorem m249 : Call (pG L xs) pM (d + 1) 249 as h Q = ((xent as).length ≤ 4 ∧ Ev (pG L xs) pM d b249 (some FieldType.boolean) Q b249_0 (xentry as 4) [] h) := rfl
theorem v249 {a0 : Nat} {a1 : Value} : Ev (pG L xs) pM d B rt Q (.invokevirtual 249 :: is) ls (a1 :: .ref a0 :: st) h = ((xis h a0 (.inr 12) ∧ (st.map fun v => v.category).sum ≤ 8) ∧ Call (pG L xs) pM d 249 [.ref a0, a1] h (fun v h' => Ev (pG L xs) pM d B rt Q is ls (v.toList ++ st) h')) := e_invokevirtual2 rfl
theorem k249_1 : b249 (Int.toNat (.ofNat 1)) = b249_1 := rfl
theorem k249_2 : b249 (Int.toNat (.ofNat 2)) = b249_2 := rfl
theorem k249_3 : b249 (Int.toNat (.ofNat 3)) = b249_3 := rfl
theorem k249_4 : b249 (Int.toNat (.ofNat 4)) = b249_4 := rfl
theorem k249_5 : b249 (Int.toNat (.ofNat 5)) = b249_5 := rfl
theorem k249_0 : b249 (Int.toNat (.ofNat 0)) = b249_0 := rfl
theorem m250 : Call (pG L xs) pM (d + 1) 250 as h Q = ((xent as).length ≤ 4 ∧ Ev (pG L xs) pM d b250 (some FieldType.boolean) Q b250_0 (xentry as 4) [] h) := rfl
theorem v250 {a0 : Nat} {a1 a2 : Value} : Ev (pG L xs) pM d B rt Q (.invokevirtual 250 :: is) ls (a2 :: a1 :: .ref a0 :: st) h = ((xis h a0 (.inr 12) ∧ (st.map fun v => v.category).sum ≤ 8) ∧ Call (pG L xs) pM d 250 [.ref a0, a1, a2] h (fun v h' => Ev (pG L xs) pM d B rt Q is ls (v.toList ++ st) h')) := e_invokevirtual3 rfl
theorem k250_1 : b250 (Int.toNat (.ofNat 1)) = b250_1 := rfl
theorem k250_2 : b250 (Int.toNat (.ofNat 2)) = b250_2 := rfl
theorem k250_3 : b250 (Int.toNat (.ofNat 3)) = b250_3 := rfl
theorem k250_4 : b250 (Int.toNat (.ofNat 4)) = b250_4 := rfl
theorem k250_0 : b250 (Int.toNat (.ofNat 0)) = b250_0 := rfl
theorem m251 : Call (pG L xs) pM (d + 1) 251 as h Q = ((xent as).length ≤ 6 ∧ Ev (pG L xs) pM d b251 (some FieldType.int) Q b251_0 (xentry as 6) [] h) := rfl
theorem v251 {a0 : Nat} {a1 : Value} : Ev (pG L xs) pM d B rt Q (.invokevirtual 251 :: is) ls (a1 :: .ref a0 :: st) h = ((xis h a0 (.inr 12) ∧ (st.map fun v => v.category).sum ≤ 8) ∧ Call (pG L xs) pM d 251 [.ref a0, a1] h (fun v h' => Ev (pG L xs) pM d B rt Q is ls (v.toList ++ st) h')) := e_invokevirtual2 rfl
theorem k251_1 : b251 (Int.toNat (.ofNat 1)) = b251_1 := rfl
theorem k251_2 : b251 (Int.toNat (.ofNat 2)) = b251_2 := rfl
theorem k251_3 : b251 (Int.toNat (.ofNat 3)) = b251_3 := rfl
theorem k251_4 : b251 (Int.toNat (.ofNat 4)) = b251_4 := rfl
theorem k251_5 : b251 (Int.toNat (.ofNat 5)) = b251_5 := rfl
theorem k251_6 : b251 (Int.toNat (.ofNat 6)) = b251_6 := rfl
theorem k251_7 : b251 (Int.toNat (.ofNat 7)) = b251_7 := rfl
theorem k251_8 : b251 (Int.toNat (.ofNat 8)) = b251_8 := rfl
theorem k251_9 : b251 (Int.toNat (.ofNat 9)) = b251_9 := rfl
theorem k251_10 : b251 (Int.toNat (.ofNat 10)) = b251_10 := rfl
theorem k251_11 : b251 (Int.toNat (.ofNat 11)) = b251_11 := rfl
theorem k251_12 : b251 (Int.toNat (.ofNat 12)) = b251_12 := rfl
theorem k251_0 : b251 (Int.toNat (.ofNat 0)) = b251_0 := rfl
theorem m252 : Call (pG L xs) pM (d + 1) 252 as h Q = ((xent as).length ≤ 3 ∧ Ev (pG L xs) pM d b252 (some FieldType.boolean) Q b252_0 (xentry as 3) [] h) := rfl
theorem v252 {a0 : Nat} {a1 : Value} : Ev (pG L xs) pM d B rt Q (.invokevirtual 252 :: is) ls (a1 :: .ref a0 :: st) h = ((xis h a0 (.inr 12) ∧ (st.map fun v => v.category).sum ≤ 8) ∧ Call (pG L xs) pM d 252 [.ref a0, a1] h (fun v h' => Ev (pG L xs) pM d B rt Q is ls (v.toList ++ st) h')) := e_invokevirtual2 rfl
theorem k252_1 : b252 (Int.toNat (.ofNat 1)) = b252_1 := rfl
theorem k252_2 : b252 (Int.toNat (.ofNat 2)) = b252_2 := rfl
theorem k252_3 : b252 (Int.toNat (.ofNat 3)) = b252_3 := rfl
theorem k252_4 : b252 (Int.toNat (.ofNat 4)) = b252_4 := rfl
theorem k252_0 : b252 (Int.toNat (.ofNat 0)) = b252_0 := rfl
theorem m253 : Call (pG L xs) pM (d + 1) 253 as h Q = ((xent as).length ≤ 3 ∧ Ev (pG L xs) pM d b253 (some FieldType.int) Q b253_0 (xentry as 3) [] h) := rfl
theorem v253 {a0 : Nat}  : Ev (pG L xs) pM d B rt Q (.invokevirtual 253 :: is) ls (.ref a0 :: st) h = ((xis h a0 (.inr 12) ∧ (st.map fun v => v.category).sum ≤ 8) ∧ Call (pG L xs) pM d 253 [.ref a0] h (fun v h' => Ev (pG L xs) pM d B rt Q is ls (v.toList ++ st) h')) := e_invokevirtual1 rfl
theorem k253_1 : b253 (Int.toNat (.ofNat 1)) = b253_1 := rfl
theorem k253_2 : b253 (Int.toNat (.ofNat 2)) = b253_2 := rfl
theorem k253_3 : b253 (Int.toNat (.ofNat 3)) = b253_3 := rfl
theorem k253_4 : b253 (Int.toNat (.ofNat 4)) = b253_4 := rfl
theorem k253_0 : b253 (Int.toNat (.ofNat 0)) = b253_0 := rfl
theorem m254 : Call (pG L xs) pM (d + 1) 254 as h Q = ((xent as).length ≤ 10 ∧ Ev (pG L xs) pM d b254 (some FieldType.int) Q b254_0 (xentry as 10) [] h) := rfl
theorem v254 {a0 : Nat} {a1 : Value} : Ev (pG L xs) pM d B rt Q (.invokevirtual 254 :: is) ls (a1 :: .ref a0 :: st) h = ((xis h a0 (.inr 12) ∧ (st.map fun v => v.category).sum ≤ 8) ∧ Call (pG L xs) pM d 254 [.ref a0, a1] h (fun v h' => Ev (pG L xs) pM d B rt Q is ls (v.toList ++ st) h')) := e_invokevirtual2 rfl
theorem k254_1 : b254 (Int.toNat (.ofNat 1)) = b254_1 := rfl
theorem k254_2 : b254 (Int.toNat (.ofNat 2)) = b254_2 := rfl
theorem k254_3 : b254 (Int.toNat (.ofNat 3)) = b254_3 := rfl
theorem k254_4 : b254 (Int.toNat (.ofNat 4)) = b254_4 := rfl
theorem k254_5 : b254 (Int.toNat (.ofNat 5)) = b254_5 := rfl
theorem k254_6 : b254 (Int.toNat (.ofNat 6)) = b254_6 := rfl
theorem k254_7 : b254 (Int.toNat (.ofNat 7)) = b254_7 := rfl
theorem k254_8 : b254 (Int.toNat (.ofNat 8)) = b254_8 := rfl
theorem k254_9 : b254 (Int.toNat (.ofNat 9)) = b254_9 := rfl
theorem k254_10 : b254 (Int.toNat (.ofNat 10)) = b254_10 := rfl
theorem k254_11 : b254 (Int.toNat (.ofNat 11)) = b254_11 := rfl
theorem k254_0 : b254 (Int.toNat (.ofNat 0)) = b254_0 := rfl
theorem m255 : Call (pG L xs) pM (d + 1) 255 as h Q = ((xent as).length ≤ 5 ∧ Ev (pG L xs) pM d b255 (some FieldType.int) Q b255_0 (xentry as 5) [] h) := rfl
theorem v255 {a0 : Nat} {a1 : Value} : Ev (pG L xs) pM d B rt Q (.invokevirtual 255 :: is) ls (a1 :: .ref a0 :: st) h = ((xis h a0 (.inr 12) ∧ (st.map fun v => v.category).sum ≤ 8) ∧ Call (pG L xs) pM d 255 [.ref a0, a1] h (fun v h' => Ev (pG L xs) pM d B rt Q is ls (v.toList ++ st) h')) := e_invokevirtual2 rfl
theorem k255_1 : b255 (Int.toNat (.ofNat 1)) = b255_1 := rfl
theorem k255_2 : b255 (Int.toNat (.ofNat 2)) = b255_2 := rfl
theorem k255_3 : b255 (Int.toNat (.ofNat 3)) = b255_3 := rfl
theorem k255_4 : b255 (Int.toNat (.ofNat 4)) = b255_4 := rfl
theorem k255_0 : b255 (Int.toNat (.ofNat 0)) = b255_0 := rfl
theorem m256 : Call (pG L xs) pM (d + 1) 256 as h Q = ((xent as).length ≤ 5 ∧ Ev (pG L xs) pM d b256 (some FieldType.int) Q b256_0 (xentry as 5) [] h) := rfl
theorem v256 {a0 : Nat}  : Ev (pG L xs) pM d B rt Q (.invokevirtual 256 :: is) ls (.ref a0 :: st) h = ((xis h a0 (.inr 12) ∧ (st.map fun v => v.category).sum ≤ 8) ∧ Call (pG L xs) pM d 256 [.ref a0] h (fun v h' => Ev (pG L xs) pM d B rt Q is ls (v.toList ++ st) h')) := e_invokevirtual1 rfl
theorem k256_1 : b256 (Int.toNat (.ofNat 1)) = b256_1 := rfl
theorem k256_2 : b256 (Int.toNat (.ofNat 2)) = b256_2 := rfl
theorem k256_3 : b256 (Int.toNat (.ofNat 3)) = b256_3 := rfl
theorem k256_4 : b256 (Int.toNat (.ofNat 4)) = b256_4 := rfl
theorem k256_5 : b256 (Int.toNat (.ofNat 5)) = b256_5 := rfl
theorem k256_6 : b256 (Int.toNat (.ofNat 6)) = b256_6 := rfl
theorem k256_7 : b256 (Int.toNat (.ofNat 7)) = b256_7 := rfl
theorem k256_8 : b256 (Int.toNat (.ofNat 8)) = b256_8 := rfl
theorem k256_9 : b256 (Int.toNat (.ofNat 9)) = b256_9 := rfl
theorem k256_10 : b256 (Int.toNat (.ofNat 10)) = b256_10 := rfl
theorem k256_0 : b256 (Int.toNat (.ofNat 0)) = b256_0 := rfl
theorem m257 : Call (pG L xs) pM (d + 1) 257 as h Q = ((xent as).length ≤ 7 ∧ Ev (pG L xs) pM d b257 (some FieldType.int) Q b257_0 (xentry as 7) [] h) := rfl
theorem v257 {a0 : Nat} {a1 a2 : Value} : Ev (pG L xs) pM d B rt Q (.invokevirtual 257 :: is) ls (a2 :: a1 :: .ref a0 :: st) h = ((xis h a0 (.inr 12) ∧ (st.map fun v => v.category).sum ≤ 8) ∧ Call (pG L xs) pM d 257 [.ref a0, a1, a2] h (fun v h' => Ev (pG L xs) pM d B rt Q is ls (v.toList ++ st) h')) := e_invokevirtual3 rfl
theorem k257_1 : b257 (Int.toNat (.ofNat 1)) = b257_1 := rfl
theorem k257_2 : b257 (Int.toNat (.ofNat 2)) = b257_2 := rfl
theorem k257_3 : b257 (Int.toNat (.ofNat 3)) = b257_3 := rfl
theorem k257_4 : b257 (Int.toNat (.ofNat 4)) = b257_4 := rfl
theorem k257_5 : b257 (Int.toNat (.ofNat 5)) = b257_5 := rfl
theorem k257_0 : b257 (Int.toNat (.ofNat 0)) = b257_0 := rfl
theorem m258 : Call (pG L xs) pM (d + 1) 258 as h Q = ((xent as).length ≤ 3 ∧ Ev (pG L xs) pM d b258 (some FieldType.int) Q b258_0 (xentry as 3) [] h) := rfl
theorem v258 {a0 : Nat} {a1 : Value} : Ev (pG L xs) pM d B rt Q (.invokevirtual 258 :: is) ls (a1 :: .ref a0 :: st) h = ((xis h a0 (.inr 12) ∧ (st.map fun v => v.category).sum ≤ 8) ∧ Call (pG L xs) pM d 258 [.ref a0, a1] h (fun v h' => Ev (pG L xs) pM d B rt Q is ls (v.toList ++ st) h')) := e_invokevirtual2 rfl
theorem k258_1 : b258 (Int.toNat (.ofNat 1)) = b258_1 := rfl
theorem k258_2 : b258 (Int.toNat (.ofNat 2)) = b258_2 := rfl
theorem k258_0 : b258 (Int.toNat (.ofNat 0)) = b258_0 := rfl
theorem m259 : Call (pG L xs) pM (d + 1) 259 as h Q = ((xent as).length ≤ 8 ∧ Ev (pG L xs) pM d b259 (some FieldType.int) Q b259_0 (xentry as 8) [] h) := rfl
theorem v259 {a0 : Nat} {a1 a2 : Value} : Ev (pG L xs) pM d B rt Q (.invokevirtual 259 :: is) ls (a2 :: a1 :: .ref a0 :: st) h = ((xis h a0 (.inr 12) ∧ (st.map fun v => v.category).sum ≤ 8) ∧ Call (pG L xs) pM d 259 [.ref a0, a1, a2] h (fun v h' => Ev (pG L xs) pM d B rt Q is ls (v.toList ++ st) h')) := e_invokevirtual3 rfl
theorem k259_1 : b259 (Int.toNat (.ofNat 1)) = b259_1 := rfl
theorem k259_2 : b259 (Int.toNat (.ofNat 2)) = b259_2 := rfl
theorem k259_3 : b259 (Int.toNat (.ofNat 3)) = b259_3 := rfl
theorem k259_4 : b259 (Int.toNat (.ofNat 4)) = b259_4 := rfl
theorem k259_5 : b259 (Int.toNat (.ofNat 5)) = b259_5 := rfl
theorem k259_6 : b259 (Int.toNat (.ofNat 6)) = b259_6 := rfl
theorem k259_7 : b259 (Int.toNat (.ofNat 7)) = b259_7 := rfl
theorem k259_8 : b259 (Int.toNat (.ofNat 8)) = b259_8 := rfl
theorem k259_0 : b259 (Int.toNat (.ofNat 0)) = b259_0 := rfl
theorem m260 : Call (pG L xs) pM (d + 1) 260 as h Q = ((xent as).length ≤ 4 ∧ Ev (pG L xs) pM d b260 (some FieldType.boolean) Q b260_0 (xentry as 4) [] h) := rfl
theorem v260 {a0 : Nat} {a1 a2 : Value} : Ev (pG L xs) pM d B rt Q (.invokevirtual 260 :: is) ls (a2 :: a1 :: .ref a0 :: st) h = ((xis h a0 (.inr 12) ∧ (st.map fun v => v.category).sum ≤ 8) ∧ Call (pG L xs) pM d 260 [.ref a0, a1, a2] h (fun v h' => Ev (pG L xs) pM d B rt Q is ls (v.toList ++ st) h')) := e_invokevirtual3 rfl
theorem k260_1 : b260 (Int.toNat (.ofNat 1)) = b260_1 := rfl
theorem k260_2 : b260 (Int.toNat (.ofNat 2)) = b260_2 := rfl
theorem k260_3 : b260 (Int.toNat (.ofNat 3)) = b260_3 := rfl
theorem k260_4 : b260 (Int.toNat (.ofNat 4)) = b260_4 := rfl
theorem k260_0 : b260 (Int.toNat (.ofNat 0)) = b260_0 := rfl
theorem m261 : Call (pG L xs) pM (d + 1) 261 as h Q = ((xent as).length ≤ 10 ∧ Ev (pG L xs) pM d b261 (some FieldType.int) Q b261_0 (xentry as 10) [] h) := rfl
theorem v261 {a0 : Nat} {a1 a2 a3 a4 : Value} : Ev (pG L xs) pM d B rt Q (.invokevirtual 261 :: is) ls (a4 :: a3 :: a2 :: a1 :: .ref a0 :: st) h = ((xis h a0 (.inr 12) ∧ (st.map fun v => v.category).sum ≤ 8) ∧ Call (pG L xs) pM d 261 [.ref a0, a1, a2, a3, a4] h (fun v h' => Ev (pG L xs) pM d B rt Q is ls (v.toList ++ st) h')) := e_invokevirtual5 rfl
theorem k261_1 : b261 (Int.toNat (.ofNat 1)) = b261_1 := rfl
theorem k261_2 : b261 (Int.toNat (.ofNat 2)) = b261_2 := rfl
theorem k261_3 : b261 (Int.toNat (.ofNat 3)) = b261_3 := rfl
theorem k261_4 : b261 (Int.toNat (.ofNat 4)) = b261_4 := rfl
theorem k261_5 : b261 (Int.toNat (.ofNat 5)) = b261_5 := rfl
theorem k261_6 : b261 (Int.toNat (.ofNat 6)) = b261_6 := rfl
theorem k261_7 : b261 (Int.toNat (.ofNat 7)) = b261_7 := rfl
theorem k261_8 : b261 (Int.toNat (.ofNat 8)) = b261_8 := rfl
theorem k261_9 : b261 (Int.toNat (.ofNat 9)) = b261_9 := rfl
theorem k261_10 : b261 (Int.toNat (.ofNat 10)) = b261_10 := rfl
theorem k261_11 : b261 (Int.toNat (.ofNat 11)) = b261_11 := rfl
theorem k261_12 : b261 (Int.toNat (.ofNat 12)) = b261_12 := rfl
theorem k261_13 : b261 (Int.toNat (.ofNat 13)) = b261_13 := rfl
theorem k261_14 : b261 (Int.toNat (.ofNat 14)) = b261_14 := rfl
theorem k261_0 : b261 (Int.toNat (.ofNat 0)) = b261_0 := rfl
theorem m262 : Call (pG L xs) pM (d + 1) 262 as h Q = ((xent as).length ≤ 6 ∧ Ev (pG L xs) pM d b262 (some FieldType.int) Q b262_0 (xentry as 6) [] h) := rfl
theorem v262 {a0 : Nat} {a1 a2 : Value} : Ev (pG L xs) pM d B rt Q (.invokevirtual 262 :: is) ls (a2 :: a1 :: .ref a0 :: st) h = ((xis h a0 (.inr 12) ∧ (st.map fun v => v.category).sum ≤ 8) ∧ Call (pG L xs) pM d 262 [.ref a0, a1, a2] h (fun v h' => Ev (pG L xs) pM d B rt Q is ls (v.toList ++ st) h')) := e_invokevirtual3 rfl
theorem k262_1 : b262 (Int.toNat (.ofNat 1)) = b262_1 := rfl
theorem k262_2 : b262 (Int.toNat (.ofNat 2)) = b262_2 := rfl
theorem k262_3 : b262 (Int.toNat (.ofNat 3)) = b262_3 := rfl
theorem k262_4 : b262 (Int.toNat (.ofNat 4)) = b262_4 := rfl
theorem k262_5 : b262 (Int.toNat (.ofNat 5)) = b262_5 := rfl
theorem m263 : Call (pG L xs) pM (d + 1) 263 as h Q = ((xent as).length ≤ 5 ∧ Ev (pG L xs) pM d b263 (some FieldType.int) Q b263_0 (xentry as 5) [] h) := rfl
theorem v263 {a0 : Nat} {a1 a2 a3 : Value} : Ev (pG L xs) pM d B rt Q (.invokevirtual 263 :: is) ls (a3 :: a2 :: a1 :: .ref a0 :: st) h = ((xis h a0 (.inr 12) ∧ (st.map fun v => v.category).sum ≤ 8) ∧ Call (pG L xs) pM d 263 [.ref a0, a1, a2, a3] h (fun v h' => Ev (pG L xs) pM d B rt Q is ls (v.toList ++ st) h')) := e_invokevirtual4 rfl
theorem k263_1 : b263 (Int.toNat (.ofNat 1)) = b263_1 := rfl
theorem k263_2 : b263 (Int.toNat (.ofNat 2)) = b263_2 := rfl
theorem k263_3 : b263 (Int.toNat (.ofNat 3)) = b263_3 := rfl
theorem k263_0 : b263 (Int.toNat (.ofNat 0)) = b263_0 := rfl
theorem m264 : Call (pG L xs) pM (d + 1) 264 as h Q = ((xent as).length ≤ 2 ∧ Ev (pG L xs) pM d b264 (some FieldType.int) Q b264_0 (xentry as 2) [] h) := rfl
theorem v264 {a0 a1 : Value} : Ev (pG L xs) pM d B rt Q (.invokestatic 264 :: is) ls (a1 :: a0 :: st) h = (((st.map fun v => v.category).sum ≤ 8) ∧ Call (pG L xs) pM d 264 [a0, a1] h (fun v h' => Ev (pG L xs) pM d B rt Q is ls (v.toList ++ st) h')) := e_invokestatic2 rfl
theorem m265 : Call (pG L xs) pM (d + 1) 265 as h Q = ((xent as).length ≤ 3 ∧ Ev (pG L xs) pM d b265 (some FieldType.boolean) Q b265_0 (xentry as 3) [] h) := rfl
theorem v265 {a0 : Nat} {a1 : Value} : Ev (pG L xs) pM d B rt Q (.invokevirtual 265 :: is) ls (a1 :: .ref a0 :: st) h = ((xis h a0 (.inr 12) ∧ (st.map fun v => v.category).sum ≤ 8) ∧ Call (pG L xs) pM d 265 [.ref a0, a1] h (fun v h' => Ev (pG L xs) pM d B rt Q is ls (v.toList ++ st) h')) := e_invokevirtual2 rfl
theorem k265_1 : b265 (Int.toNat (.ofNat 1)) = b265_1 := rfl
theorem k265_2 : b265 (Int.toNat (.ofNat 2)) = b265_2 := rfl
theorem k265_3 : b265 (Int.toNat (.ofNat 3)) = b265_3 := rfl
theorem k265_0 : b265 (Int.toNat (.ofNat 0)) = b265_0 := rfl
theorem m266 : Call (pG L xs) pM (d + 1) 266 as h Q = ((xent as).length ≤ 4 ∧ Ev (pG L xs) pM d b266 (none) Q b266_0 (xentry as 4) [] h) := rfl
theorem v266 {a0 : Nat}  : Ev (pG L xs) pM d B rt Q (.invokevirtual 266 :: is) ls (.ref a0 :: st) h = ((xis h a0 (.inr 12) ∧ (st.map fun v => v.category).sum ≤ 8) ∧ Call (pG L xs) pM d 266 [.ref a0] h (fun v h' => Ev (pG L xs) pM d B rt Q is ls (v.toList ++ st) h')) := e_invokevirtual1 rfl
theorem k266_1 : b266 (Int.toNat (.ofNat 1)) = b266_1 := rfl
theorem k266_2 : b266 (Int.toNat (.ofNat 2)) = b266_2 := rfl
theorem k266_3 : b266 (Int.toNat (.ofNat 3)) = b266_3 := rfl
theorem k266_4 : b266 (Int.toNat (.ofNat 4)) = b266_4 := rfl
theorem k266_0 : b266 (Int.toNat (.ofNat 0)) = b266_0 := rfl
theorem m267 : Call (pG L xs) pM (d + 1) 267 as h Q = ((xent as).length ≤ 5 ∧ Ev (pG L xs) pM d b267 (some FieldType.int) Q b267_0 (xentry as 5) [] h) := rfl
theorem v267 {a0 : Nat} {a1 : Value} : Ev (pG L xs) pM d B rt Q (.invokevirtual 267 :: is) ls (a1 :: .ref a0 :: st) h = ((xis h a0 (.inr 12) ∧ (st.map fun v => v.category).sum ≤ 8) ∧ Call (pG L xs) pM d 267 [.ref a0, a1] h (fun v h' => Ev (pG L xs) pM d B rt Q is ls (v.toList ++ st) h')) := e_invokevirtual2 rfl
theorem k267_1 : b267 (Int.toNat (.ofNat 1)) = b267_1 := rfl
theorem k267_2 : b267 (Int.toNat (.ofNat 2)) = b267_2 := rfl
theorem k267_3 : b267 (Int.toNat (.ofNat 3)) = b267_3 := rfl
theorem k267_4 : b267 (Int.toNat (.ofNat 4)) = b267_4 := rfl
theorem k267_5 : b267 (Int.toNat (.ofNat 5)) = b267_5 := rfl
theorem k267_6 : b267 (Int.toNat (.ofNat 6)) = b267_6 := rfl
theorem k267_7 : b267 (Int.toNat (.ofNat 7)) = b267_7 := rfl
theorem k267_8 : b267 (Int.toNat (.ofNat 8)) = b267_8 := rfl
theorem k267_0 : b267 (Int.toNat (.ofNat 0)) = b267_0 := rfl
theorem m268 : Call (pG L xs) pM (d + 1) 268 as h Q = ((xent as).length ≤ 6 ∧ Ev (pG L xs) pM d b268 (some FieldType.int) Q b268_0 (xentry as 6) [] h) := rfl
theorem v268 {a0 : Nat} {a1 : Value} : Ev (pG L xs) pM d B rt Q (.invokevirtual 268 :: is) ls (a1 :: .ref a0 :: st) h = ((xis h a0 (.inr 12) ∧ (st.map fun v => v.category).sum ≤ 8) ∧ Call (pG L xs) pM d 268 [.ref a0, a1] h (fun v h' => Ev (pG L xs) pM d B rt Q is ls (v.toList ++ st) h')) := e_invokevirtual2 rfl
theorem k268_1 : b268 (Int.toNat (.ofNat 1)) = b268_1 := rfl
theorem k268_2 : b268 (Int.toNat (.ofNat 2)) = b268_2 := rfl
theorem k268_3 : b268 (Int.toNat (.ofNat 3)) = b268_3 := rfl
theorem k268_4 : b268 (Int.toNat (.ofNat 4)) = b268_4 := rfl
theorem k268_5 : b268 (Int.toNat (.ofNat 5)) = b268_5 := rfl
theorem k268_6 : b268 (Int.toNat (.ofNat 6)) = b268_6 := rfl
theorem k268_7 : b268 (Int.toNat (.ofNat 7)) = b268_7 := rfl
theorem k268_8 : b268 (Int.toNat (.ofNat 8)) = b268_8 := rfl
theorem k268_0 : b268 (Int.toNat (.ofNat 0)) = b268_0 := rfl
theorem m269 : Call (pG L xs) pM (d + 1) 269 as h Q = ((xent as).length ≤ 4 ∧ Ev (pG L xs) pM d b269 (some FieldType.int) Q b269_0 (xentry as 4) [] h) := rfl
theorem v269 {a0 : Nat} {a1 : Value} : Ev (pG L xs) pM d B rt Q (.invokevirtual 269 :: is) ls (a1 :: .ref a0 :: st) h = ((xis h a0 (.inr 12) ∧ (st.map fun v => v.category).sum ≤ 8) ∧ Call (pG L xs) pM d 269 [.ref a0, a1] h (fun v h' => Ev (pG L xs) pM d B rt Q is ls (v.toList ++ st) h')) := e_invokevirtual2 rfl
theorem k269_1 : b269 (Int.toNat (.ofNat 1)) = b269_1 := rfl
theorem k269_2 : b269 (Int.toNat (.ofNat 2)) = b269_2 := rfl
theorem k269_3 : b269 (Int.toNat (.ofNat 3)) = b269_3 := rfl
theorem k269_4 : b269 (Int.toNat (.ofNat 4)) = b269_4 := rfl
theorem k269_5 : b269 (Int.toNat (.ofNat 5)) = b269_5 := rfl
theorem k269_6 : b269 (Int.toNat (.ofNat 6)) = b269_6 := rfl
theorem k269_7 : b269 (Int.toNat (.ofNat 7)) = b269_7 := rfl
theorem k269_8 : b269 (Int.toNat (.ofNat 8)) = b269_8 := rfl
theorem k269_0 : b269 (Int.toNat (.ofNat 0)) = b269_0 := rfl
theorem m270 : Call (pG L xs) pM (d + 1) 270 as h Q = ((xent as).length ≤ 3 ∧ Ev (pG L xs) pM d b270 (some FieldType.int) Q b270_0 (xentry as 3) [] h) := rfl
theorem v270 {a0 : Nat} {a1 : Value} : Ev (pG L xs) pM d B rt Q (.invokevirtual 270 :: is) ls (a1 :: .ref a0 :: st) h = ((xis h a0 (.inr 12) ∧ (st.map fun v => v.category).sum ≤ 8) ∧ Call (pG L xs) pM d 270 [.ref a0, a1] h (fun v h' => Ev (pG L xs) pM d B rt Q is ls (v.toList ++ st) h')) := e_invokevirtual2 rfl
theorem k270_1 : b270 (Int.toNat (.ofNat 1)) = b270_1 := rfl
theorem m271 : Call (pG L xs) pM (d + 1) 271 as h Q = ((xent as).length ≤ 2 ∧ Ev (pG L xs) pM d b271 (some FieldType.int) Q b271_0 (xentry as 2) [] h) := rfl
theorem v271 {a0 : Nat} {a1 : Value} : Ev (pG L xs) pM d B rt Q (.invokevirtual 271 :: is) ls (a1 :: .ref a0 :: st) h = ((xis h a0 (.inr 12) ∧ (st.map fun v => v.category).sum ≤ 8) ∧ Call (pG L xs) pM d 271 [.ref a0, a1] h (fun v h' => Ev (pG L xs) pM d B rt Q is ls (v.toList ++ st) h')) := e_invokevirtual2 rfl
theorem m272 : Call (pG L xs) pM (d + 1) 272 as h Q = ((xent as).length ≤ 10 ∧ Ev (pG L xs) pM d b272 (some FieldType.int) Q b272_0 (xentry as 10) [] h) := rfl
theorem v272 {a0 : Nat} {a1 a2 a3 a4 : Value} : Ev (pG L xs) pM d B rt Q (.invokevirtual 272 :: is) ls (a4 :: a3 :: a2 :: a1 :: .ref a0 :: st) h = ((xis h a0 (.inr 12) ∧ (st.map fun v => v.category).sum ≤ 8) ∧ Call (pG L xs) pM d 272 [.ref a0, a1, a2, a3, a4] h (fun v h' => Ev (pG L xs) pM d B rt Q is ls (v.toList ++ st) h')) := e_invokevirtual5 rfl
theorem k272_1 : b272 (Int.toNat (.ofNat 1)) = b272_1 := rfl
theorem k272_2 : b272 (Int.toNat (.ofNat 2)) = b272_2 := rfl
theorem k272_3 : b272 (Int.toNat (.ofNat 3)) = b272_3 := rfl
theorem k272_4 : b272 (Int.toNat (.ofNat 4)) = b272_4 := rfl
theorem k272_5 : b272 (Int.toNat (.ofNat 5)) = b272_5 := rfl
theorem k272_6 : b272 (Int.toNat (.ofNat 6)) = b272_6 := rfl
theorem k272_7 : b272 (Int.toNat (.ofNat 7)) = b272_7 := rfl
theorem k272_8 : b272 (Int.toNat (.ofNat 8)) = b272_8 := rfl
theorem k272_9 : b272 (Int.toNat (.ofNat 9)) = b272_9 := rfl
theorem k272_0 : b272 (Int.toNat (.ofNat 0)) = b272_0 := rfl
theorem m273 : Call (pG L xs) pM (d + 1) 273 as h Q = ((xent as).length ≤ 2 ∧ Ev (pG L xs) pM d b273 (some FieldType.int) Q b273_0 (xentry as 2) [] h) := rfl
theorem v273 {a0 : Nat} {a1 : Value} : Ev (pG L xs) pM d B rt Q (.invokevirtual 273 :: is) ls (a1 :: .ref a0 :: st) h = ((xis h a0 (.inr 12) ∧ (st.map fun v => v.category).sum ≤ 8) ∧ Call (pG L xs) pM d 273 [.ref a0, a1] h (fun v h' => Ev (pG L xs) pM d B rt Q is ls (v.toList ++ st) h')) := e_invokevirtual2 rfl
theorem k273_1 : b273 (Int.toNat (.ofNat 1)) = b273_1 := rfl
theorem k273_2 : b273 (Int.toNat (.ofNat 2)) = b273_2 := rfl
theorem k273_3 : b273 (Int.toNat (.ofNat 3)) = b273_3 := rfl
theorem k273_4 : b273 (Int.toNat (.ofNat 4)) = b273_4 := rfl
theorem k273_5 : b273 (Int.toNat (.ofNat 5)) = b273_5 := rfl
theorem k273_6 : b273 (Int.toNat (.ofNat 6)) = b273_6 := rfl
theorem k273_7 : b273 (Int.toNat (.ofNat 7)) = b273_7 := rfl
theorem k273_8 : b273 (Int.toNat (.ofNat 8)) = b273_8 := rfl
theorem k273_9 : b273 (Int.toNat (.ofNat 9)) = b273_9 := rfl
theorem k273_10 : b273 (Int.toNat (.ofNat 10)) = b273_10 := rfl
theorem k273_11 : b273 (Int.toNat (.ofNat 11)) = b273_11 := rfl
theorem k273_12 : b273 (Int.toNat (.ofNat 12)) = b273_12 := rfl
theorem m274 : Call (pG L xs) pM (d + 1) 274 as h Q = ((xent as).length ≤ 3 ∧ Ev (pG L xs) pM d b274 (some FieldType.int) Q b274_0 (xentry as 3) [] h) := rfl
theorem v274 {a0 : Nat} {a1 : Value} : Ev (pG L xs) pM d B rt Q (.invokevirtual 274 :: is) ls (a1 :: .ref a0 :: st) h = ((xis h a0 (.inr 12) ∧ (st.map fun v => v.category).sum ≤ 8) ∧ Call (pG L xs) pM d 274 [.ref a0, a1] h (fun v h' => Ev (pG L xs) pM d B rt Q is ls (v.toList ++ st) h')) := e_invokevirtual2 rfl
theorem k274_1 : b274 (Int.toNat (.ofNat 1)) = b274_1 := rfl
theorem k274_2 : b274 (Int.toNat (.ofNat 2)) = b274_2 := rfl
theorem k274_3 : b274 (Int.toNat (.ofNat 3)) = b274_3 := rfl
theorem k274_0 : b274 (Int.toNat (.ofNat 0)) = b274_0 := rfl
theorem m275 : Call (pG L xs) pM (d + 1) 275 as h Q = ((xent as).length ≤ 3 ∧ Ev (pG L xs) pM d b275 (some FieldType.int) Q b275_0 (xentry as 3) [] h) := rfl
theorem v275 {a0 : Nat} {a1 : Value} : Ev (pG L xs) pM d B rt Q (.invokevirtual 275 :: is) ls (a1 :: .ref a0 :: st) h = ((xis h a0 (.inr 12) ∧ (st.map fun v => v.category).sum ≤ 8) ∧ Call (pG L xs) pM d 275 [.ref a0, a1] h (fun v h' => Ev (pG L xs) pM d B rt Q is ls (v.toList ++ st) h')) := e_invokevirtual2 rfl
theorem k275_1 : b275 (Int.toNat (.ofNat 1)) = b275_1 := rfl
theorem k275_2 : b275 (Int.toNat (.ofNat 2)) = b275_2 := rfl
theorem k275_3 : b275 (Int.toNat (.ofNat 3)) = b275_3 := rfl
theorem k275_4 : b275 (Int.toNat (.ofNat 4)) = b275_4 := rfl
theorem k275_0 : b275 (Int.toNat (.ofNat 0)) = b275_0 := rfl
theorem m276 : Call (pG L xs) pM (d + 1) 276 as h Q = ((xent as).length ≤ 1 ∧ Ev (pG L xs) pM d b276 (some FieldType.int) Q b276_0 (xentry as 1) [] h) := rfl
theorem v276 {a0 : Value} : Ev (pG L xs) pM d B rt Q (.invokestatic 276 :: is) ls (a0 :: st) h = (((st.map fun v => v.category).sum ≤ 8) ∧ Call (pG L xs) pM d 276 [a0] h (fun v h' => Ev (pG L xs) pM d B rt Q is ls (v.toList ++ st) h')) := e_invokestatic1 rfl
theorem m277 : Call (pG L xs) pM (d + 1) 277 as h Q = ((xent as).length ≤ 2 ∧ Ev (pG L xs) pM d b277 (some FieldType.int) Q b277_0 (xentry as 2) [] h) := rfl
theorem v277 {a0 a1 : Value} : Ev (pG L xs) pM d B rt Q (.invokestatic 277 :: is) ls (a1 :: a0 :: st) h = (((st.map fun v => v.category).sum ≤ 8) ∧ Call (pG L xs) pM d 277 [a0, a1] h (fun v h' => Ev (pG L xs) pM d B rt Q is ls (v.toList ++ st) h')) := e_invokestatic2 rfl
theorem k277_1 : b277 (Int.toNat (.ofNat 1)) = b277_1 := rfl
theorem k277_2 : b277 (Int.toNat (.ofNat 2)) = b277_2 := rfl
theorem m278 : Call (pG L xs) pM (d + 1) 278 as h Q = ((xent as).length ≤ 4 ∧ Ev (pG L xs) pM d b278 (some FieldType.long) Q b278_0 (xentry as 4) [] h) := rfl
theorem v278 {a0 a1 : Value} : Ev (pG L xs) pM d B rt Q (.invokestatic 278 :: is) ls (a1 :: a0 :: st) h = (((st.map fun v => v.category).sum ≤ 8) ∧ Call (pG L xs) pM d 278 [a0, a1] h (fun v h' => Ev (pG L xs) pM d B rt Q is ls (v.toList ++ st) h')) := e_invokestatic2 rfl
theorem k278_1 : b278 (Int.toNat (.ofNat 1)) = b278_1 := rfl
theorem k278_2 : b278 (Int.toNat (.ofNat 2)) = b278_2 := rfl
theorem m279 : Call (pG L xs) pM (d + 1) 279 as h Q = ((xent as).length ≤ 2 ∧ Ev (pG L xs) pM d b279 (some FieldType.int) Q b279_0 (xentry as 2) [] h) := rfl
theorem v279 {a0 a1 : Value} : Ev (pG L xs) pM d B rt Q (.invokestatic 279 :: is) ls (a1 :: a0 :: st) h = (((st.map fun v => v.category).sum ≤ 8) ∧ Call (pG L xs) pM d 279 [a0, a1] h (fun v h' => Ev (pG L xs) pM d B rt Q is ls (v.toList ++ st) h')) := e_invokestatic2 rfl
theorem k279_1 : b279 (Int.toNat (.ofNat 1)) = b279_1 := rfl
theorem k279_2 : b279 (Int.toNat (.ofNat 2)) = b279_2 := rfl
theorem m280 : Call (pG L xs) pM (d + 1) 280 as h Q = ((xent as).length ≤ 4 ∧ Ev (pG L xs) pM d b280 (none) Q b280_0 (xentry as 4) [] h) := rfl
theorem v280 {a0 a1 : Value} : Ev (pG L xs) pM d B rt Q (.invokestatic 280 :: is) ls (a1 :: a0 :: st) h = (((st.map fun v => v.category).sum ≤ 8) ∧ Call (pG L xs) pM d 280 [a0, a1] h (fun v h' => Ev (pG L xs) pM d B rt Q is ls (v.toList ++ st) h')) := e_invokestatic2 rfl
theorem k280_1 : b280 (Int.toNat (.ofNat 1)) = b280_1 := rfl
theorem k280_2 : b280 (Int.toNat (.ofNat 2)) = b280_2 := rfl
theorem k280_0 : b280 (Int.toNat (.ofNat 0)) = b280_0 := rfl
theorem m281 : Call (pG L xs) pM (d + 1) 281 as h Q = ((xent as).length ≤ 3 ∧ Ev (pG L xs) pM d b281 (some (FieldType.array FieldType.int)) Q b281_0 (xentry as 3) [] h) := rfl
theorem v281 {a0 a1 : Value} : Ev (pG L xs) pM d B rt Q (.invokestatic 281 :: is) ls (a1 :: a0 :: st) h = (((st.map fun v => v.category).sum ≤ 8) ∧ Call (pG L xs) pM d 281 [a0, a1] h (fun v h' => Ev (pG L xs) pM d B rt Q is ls (v.toList ++ st) h')) := e_invokestatic2 rfl
theorem k281_1 : b281 (Int.toNat (.ofNat 1)) = b281_1 := rfl
theorem k281_0 : b281 (Int.toNat (.ofNat 0)) = b281_0 := rfl
end MT
