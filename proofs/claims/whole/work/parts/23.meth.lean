section MT
variable {L d : Nat} {xs : Nat → Int32} {as : List Value} {h : xH} {Q : xQ}
theorem m0 : Call (pG L xs) pM (d + 1) 0 as h Q = ((xent as).length ≤ 1 ∧ Ev (pG L xs) pM d b0 (none) Q b0_0 (xentry as 1) [] h) := rfl
theorem n0 : (pG L xs).2.1 0 = 1 := rfl
theorem m1 : Call (pG L xs) pM (d + 1) 1 as h Q = ((xent as).length ≤ 6 ∧ Ev (pG L xs) pM d b1 (some FieldType.int) Q b1_0 (xentry as 6) [] h) := rfl
theorem n1 : (pG L xs).2.1 1 = 3 := rfl
theorem c1 : (pG L xs).2.2.1 1 = 0 := rfl
theorem k1_1 : b1 (Int.toNat (.ofNat 1)) = b1_1 := rfl
theorem k1_2 : b1 (Int.toNat (.ofNat 2)) = b1_2 := rfl
theorem k1_3 : b1 (Int.toNat (.ofNat 3)) = b1_3 := rfl
theorem k1_4 : b1 (Int.toNat (.ofNat 4)) = b1_4 := rfl
theorem k1_5 : b1 (Int.toNat (.ofNat 5)) = b1_5 := rfl
theorem k1_0 : b1 (Int.toNat (.ofNat 0)) = b1_0 := rfl
theorem m2 : Call (pG L xs) pM (d + 1) 2 as h Q = ((xent as).length ≤ 6 ∧ Ev (pG L xs) pM d b2 (none) Q b2_0 (xentry as 6) [] h) := rfl
theorem n2 : (pG L xs).2.1 2 = 4 := rfl
theorem c2 : (pG L xs).2.2.1 2 = 0 := rfl
theorem k2_1 : b2 (Int.toNat (.ofNat 1)) = b2_1 := rfl
theorem k2_2 : b2 (Int.toNat (.ofNat 2)) = b2_2 := rfl
theorem k2_0 : b2 (Int.toNat (.ofNat 0)) = b2_0 := rfl
theorem m3 : Call (pG L xs) pM (d + 1) 3 as h Q = ((xent as).length ≤ 3 ∧ Ev (pG L xs) pM d b3 (some FieldType.boolean) Q b3_0 (xentry as 3) [] h) := rfl
theorem n3 : (pG L xs).2.1 3 = 3 := rfl
theorem c3 : (pG L xs).2.2.1 3 = 0 := rfl
theorem k3_1 : b3 (Int.toNat (.ofNat 1)) = b3_1 := rfl
theorem k3_2 : b3 (Int.toNat (.ofNat 2)) = b3_2 := rfl
theorem k3_3 : b3 (Int.toNat (.ofNat 3)) = b3_3 := rfl
theorem k3_0 : b3 (Int.toNat (.ofNat 0)) = b3_0 := rfl
theorem m4 : Call (pG L xs) pM (d + 1) 4 as h Q = ((xent as).length ≤ 5 ∧ Ev (pG L xs) pM d b4 (some FieldType.int) Q b4_0 (xentry as 5) [] h) := rfl
theorem n4 : (pG L xs).2.1 4 = 3 := rfl
theorem c4 : (pG L xs).2.2.1 4 = 0 := rfl
theorem k4_1 : b4 (Int.toNat (.ofNat 1)) = b4_1 := rfl
theorem k4_2 : b4 (Int.toNat (.ofNat 2)) = b4_2 := rfl
theorem k4_3 : b4 (Int.toNat (.ofNat 3)) = b4_3 := rfl
theorem k4_4 : b4 (Int.toNat (.ofNat 4)) = b4_4 := rfl
theorem k4_5 : b4 (Int.toNat (.ofNat 5)) = b4_5 := rfl
theorem k4_0 : b4 (Int.toNat (.ofNat 0)) = b4_0 := rfl
theorem m5 : Call (pG L xs) pM (d + 1) 5 as h Q = ((xent as).length ≤ 10 ∧ Ev (pG L xs) pM d b5 (some FieldType.int) Q b5_0 (xentry as 10) [] h) := rfl
theorem n5 : (pG L xs).2.1 5 = 4 := rfl
theorem c5 : (pG L xs).2.2.1 5 = 0 := rfl
theorem k5_1 : b5 (Int.toNat (.ofNat 1)) = b5_1 := rfl
theorem k5_2 : b5 (Int.toNat (.ofNat 2)) = b5_2 := rfl
theorem k5_3 : b5 (Int.toNat (.ofNat 3)) = b5_3 := rfl
theorem k5_4 : b5 (Int.toNat (.ofNat 4)) = b5_4 := rfl
theorem k5_5 : b5 (Int.toNat (.ofNat 5)) = b5_5 := rfl
theorem k5_6 : b5 (Int.toNat (.ofNat 6)) = b5_6 := rfl
theorem k5_0 : b5 (Int.toNat (.ofNat 0)) = b5_0 := rfl
theorem m6 : Call (pG L xs) pM (d + 1) 6 as h Q = ((xent as).length ≤ 4 ∧ Ev (pG L xs) pM d b6 (none) Q b6_0 (xentry as 4) [] h) := rfl
theorem n6 : (pG L xs).2.1 6 = 3 := rfl
theorem c6 : (pG L xs).2.2.1 6 = 0 := rfl
theorem k6_0 : b6 (Int.toNat (.ofNat 0)) = b6_0 := rfl
theorem m7 : Call (pG L xs) pM (d + 1) 7 as h Q = ((xent as).length ≤ 4 ∧ Ev (pG L xs) pM d b7 (none) Q b7_0 (xentry as 4) [] h) := rfl
theorem n7 : (pG L xs).2.1 7 = 4 := rfl
theorem c7 : (pG L xs).2.2.1 7 = 0 := rfl
theorem k7_1 : b7 (Int.toNat (.ofNat 1)) = b7_1 := rfl
theorem k7_2 : b7 (Int.toNat (.ofNat 2)) = b7_2 := rfl
theorem k7_3 : b7 (Int.toNat (.ofNat 3)) = b7_3 := rfl
theorem k7_4 : b7 (Int.toNat (.ofNat 4)) = b7_4 := rfl
theorem k7_0 : b7 (Int.toNat (.ofNat 0)) = b7_0 := rfl
theorem m8 : Call (pG L xs) pM (d + 1) 8 as h Q = ((xent as).length ≤ 1 ∧ Ev (pG L xs) pM d b8 (none) Q b8_0 (xentry as 1) [] h) := rfl
theorem n8 : (pG L xs).2.1 8 = 1 := rfl
theorem m9 : Call (pG L xs) pM (d + 1) 9 as h Q = ((xent as).length ≤ 3 ∧ Ev (pG L xs) pM d b9 (some FieldType.int) Q b9_0 (xentry as 3) [] h) := rfl
theorem n9 : (pG L xs).2.1 9 = 2 := rfl
theorem c9 : (pG L xs).2.2.1 9 = 1 := rfl
theorem k9_1 : b9 (Int.toNat (.ofNat 1)) = b9_1 := rfl
theorem k9_2 : b9 (Int.toNat (.ofNat 2)) = b9_2 := rfl
theorem k9_3 : b9 (Int.toNat (.ofNat 3)) = b9_3 := rfl
theorem k9_4 : b9 (Int.toNat (.ofNat 4)) = b9_4 := rfl
theorem k9_0 : b9 (Int.toNat (.ofNat 0)) = b9_0 := rfl
theorem m10 : Call (pG L xs) pM (d + 1) 10 as h Q = ((xent as).length ≤ 6 ∧ Ev (pG L xs) pM d b10 (none) Q b10_0 (xentry as 6) [] h) := rfl
theorem n10 : (pG L xs).2.1 10 = 3 := rfl
theorem c10 : (pG L xs).2.2.1 10 = 1 := rfl
theorem k10_1 : b10 (Int.toNat (.ofNat 1)) = b10_1 := rfl
theorem k10_2 : b10 (Int.toNat (.ofNat 2)) = b10_2 := rfl
theorem k10_3 : b10 (Int.toNat (.ofNat 3)) = b10_3 := rfl
theorem k10_4 : b10 (Int.toNat (.ofNat 4)) = b10_4 := rfl
theorem k10_5 : b10 (Int.toNat (.ofNat 5)) = b10_5 := rfl
theorem k10_6 : b10 (Int.toNat (.ofNat 6)) = b10_6 := rfl
theorem k10_7 : b10 (Int.toNat (.ofNat 7)) = b10_7 := rfl
theorem k10_8 : b10 (Int.toNat (.ofNat 8)) = b10_8 := rfl
theorem k10_9 : b10 (Int.toNat (.ofNat 9)) = b10_9 := rfl
theorem k10_10 : b10 (Int.toNat (.ofNat 10)) = b10_10 := rfl
theorem k10_11 : b10 (Int.toNat (.ofNat 11)) = b10_11 := rfl
theorem k10_12 : b10 (Int.toNat (.ofNat 12)) = b10_12 := rfl
theorem k10_13 : b10 (Int.toNat (.ofNat 13)) = b10_13 := rfl
theorem k10_0 : b10 (Int.toNat (.ofNat 0)) = b10_0 := rfl
theorem m11 : Call (pG L xs) pM (d + 1) 11 as h Q = ((xent as).length ≤ 3 ∧ Ev (pG L xs) pM d b11 (none) Q b11_0 (xentry as 3) [] h) := rfl
theorem n11 : (pG L xs).2.1 11 = 3 := rfl
theorem c11 : (pG L xs).2.2.1 11 = 1 := rfl
theorem k11_1 : b11 (Int.toNat (.ofNat 1)) = b11_1 := rfl
theorem k11_2 : b11 (Int.toNat (.ofNat 2)) = b11_2 := rfl
theorem k11_3 : b11 (Int.toNat (.ofNat 3)) = b11_3 := rfl
theorem k11_0 : b11 (Int.toNat (.ofNat 0)) = b11_0 := rfl
theorem m12 : Call (pG L xs) pM (d + 1) 12 as h Q = ((xent as).length ≤ 4 ∧ Ev (pG L xs) pM d b12 (none) Q b12_0 (xentry as 4) [] h) := rfl
theorem n12 : (pG L xs).2.1 12 = 4 := rfl
theorem c12 : (pG L xs).2.2.1 12 = 1 := rfl
theorem k12_1 : b12 (Int.toNat (.ofNat 1)) = b12_1 := rfl
theorem k12_2 : b12 (Int.toNat (.ofNat 2)) = b12_2 := rfl
theorem k12_3 : b12 (Int.toNat (.ofNat 3)) = b12_3 := rfl
theorem k12_4 : b12 (Int.toNat (.ofNat 4)) = b12_4 := rfl
theorem k12_5 : b12 (Int.toNat (.ofNat 5)) = b12_5 := rfl
theorem k12_0 : b12 (Int.toNat (.ofNat 0)) = b12_0 := rfl
theorem m13 : Call (pG L xs) pM (d + 1) 13 as h Q = ((xent as).length ≤ 2 ∧ Ev (pG L xs) pM d b13 (none) Q b13_0 (xentry as 2) [] h) := rfl
theorem n13 : (pG L xs).2.1 13 = 2 := rfl
theorem c13 : (pG L xs).2.2.1 13 = 1 := rfl
theorem k13_1 : b13 (Int.toNat (.ofNat 1)) = b13_1 := rfl
theorem k13_2 : b13 (Int.toNat (.ofNat 2)) = b13_2 := rfl
theorem k13_3 : b13 (Int.toNat (.ofNat 3)) = b13_3 := rfl
theorem k13_0 : b13 (Int.toNat (.ofNat 0)) = b13_0 := rfl
theorem m14 : Call (pG L xs) pM (d + 1) 14 as h Q = ((xent as).length ≤ 1 ∧ Ev (pG L xs) pM d b14 (none) Q b14_0 (xentry as 1) [] h) := rfl
theorem n14 : (pG L xs).2.1 14 = 1 := rfl
theorem m15 : Call (pG L xs) pM (d + 1) 15 as h Q = ((xent as).length ≤ 5 ∧ Ev (pG L xs) pM d b15 (none) Q b15_0 (xentry as 5) [] h) := rfl
theorem n15 : (pG L xs).2.1 15 = 4 := rfl
theorem c15 : (pG L xs).2.2.1 15 = 2 := rfl
theorem k15_1 : b15 (Int.toNat (.ofNat 1)) = b15_1 := rfl
theorem k15_2 : b15 (Int.toNat (.ofNat 2)) = b15_2 := rfl
theorem k15_3 : b15 (Int.toNat (.ofNat 3)) = b15_3 := rfl
theorem k15_4 : b15 (Int.toNat (.ofNat 4)) = b15_4 := rfl
theorem k15_0 : b15 (Int.toNat (.ofNat 0)) = b15_0 := rfl
theorem m16 : Call (pG L xs) pM (d + 1) 16 as h Q = ((xent as).length ≤ 5 ∧ Ev (pG L xs) pM d b16 (none) Q b16_0 (xentry as 5) [] h) := rfl
theorem n16 : (pG L xs).2.1 16 = 3 := rfl
theorem c16 : (pG L xs).2.2.1 16 = 2 := rfl
theorem k16_1 : b16 (Int.toNat (.ofNat 1)) = b16_1 := rfl
theorem k16_2 : b16 (Int.toNat (.ofNat 2)) = b16_2 := rfl
theorem k16_3 : b16 (Int.toNat (.ofNat 3)) = b16_3 := rfl
theorem k16_0 : b16 (Int.toNat (.ofNat 0)) = b16_0 := rfl
theorem m17 : Call (pG L xs) pM (d + 1) 17 as h Q = ((xent as).length ≤ 4 ∧ Ev (pG L xs) pM d b17 (some FieldType.boolean) Q b17_0 (xentry as 4) [] h) := rfl
theorem n17 : (pG L xs).2.1 17 = 2 := rfl
theorem k17_1 : b17 (Int.toNat (.ofNat 1)) = b17_1 := rfl
theorem k17_2 : b17 (Int.toNat (.ofNat 2)) = b17_2 := rfl
theorem k17_3 : b17 (Int.toNat (.ofNat 3)) = b17_3 := rfl
theorem k17_0 : b17 (Int.toNat (.ofNat 0)) = b17_0 := rfl
theorem m18 : Call (pG L xs) pM (d + 1) 18 as h Q = ((xent as).length ≤ 3 ∧ Ev (pG L xs) pM d b18 (some FieldType.int) Q b18_0 (xentry as 3) [] h) := rfl
theorem n18 : (pG L xs).2.1 18 = 1 := rfl
theorem c18 : (pG L xs).2.2.1 18 = 2 := rfl
theorem k18_1 : b18 (Int.toNat (.ofNat 1)) = b18_1 := rfl
theorem k18_2 : b18 (Int.toNat (.ofNat 2)) = b18_2 := rfl
theorem k18_3 : b18 (Int.toNat (.ofNat 3)) = b18_3 := rfl
theorem k18_4 : b18 (Int.toNat (.ofNat 4)) = b18_4 := rfl
theorem k18_0 : b18 (Int.toNat (.ofNat 0)) = b18_0 := rfl
theorem m19 : Call (pG L xs) pM (d + 1) 19 as h Q = ((xent as).length ≤ 2 ∧ Ev (pG L xs) pM d b19 (some FieldType.int) Q b19_0 (xentry as 2) [] h) := rfl
theorem n19 : (pG L xs).2.1 19 = 1 := rfl
theorem c19 : (pG L xs).2.2.1 19 = 2 := rfl
theorem k19_1 : b19 (Int.toNat (.ofNat 1)) = b19_1 := rfl
theorem k19_2 : b19 (Int.toNat (.ofNat 2)) = b19_2 := rfl
theorem k19_3 : b19 (Int.toNat (.ofNat 3)) = b19_3 := rfl
theorem k19_0 : b19 (Int.toNat (.ofNat 0)) = b19_0 := rfl
theorem m20 : Call (pG L xs) pM (d + 1) 20 as h Q = ((xent as).length ≤ 6 ∧ Ev (pG L xs) pM d b20 (some FieldType.int) Q b20_0 (xentry as 6) [] h) := rfl
theorem n20 : (pG L xs).2.1 20 = 2 := rfl
theorem c20 : (pG L xs).2.2.1 20 = 2 := rfl
theorem k20_1 : b20 (Int.toNat (.ofNat 1)) = b20_1 := rfl
theorem k20_2 : b20 (Int.toNat (.ofNat 2)) = b20_2 := rfl
theorem k20_3 : b20 (Int.toNat (.ofNat 3)) = b20_3 := rfl
theorem k20_4 : b20 (Int.toNat (.ofNat 4)) = b20_4 := rfl
theorem k20_5 : b20 (Int.toNat (.ofNat 5)) = b20_5 := rfl
theorem k20_6 : b20 (Int.toNat (.ofNat 6)) = b20_6 := rfl
theorem k20_0 : b20 (Int.toNat (.ofNat 0)) = b20_0 := rfl
theorem m21 : Call (pG L xs) pM (d + 1) 21 as h Q = ((xent as).length ≤ 6 ∧ Ev (pG L xs) pM d b21 (some FieldType.int) Q b21_0 (xentry as 6) [] h) := rfl
theorem n21 : (pG L xs).2.1 21 = 2 := rfl
theorem c21 : (pG L xs).2.2.1 21 = 2 := rfl
theorem k21_1 : b21 (Int.toNat (.ofNat 1)) = b21_1 := rfl
theorem k21_2 : b21 (Int.toNat (.ofNat 2)) = b21_2 := rfl
theorem k21_3 : b21 (Int.toNat (.ofNat 3)) = b21_3 := rfl
theorem k21_4 : b21 (Int.toNat (.ofNat 4)) = b21_4 := rfl
theorem k21_5 : b21 (Int.toNat (.ofNat 5)) = b21_5 := rfl
theorem k21_6 : b21 (Int.toNat (.ofNat 6)) = b21_6 := rfl
theorem k21_0 : b21 (Int.toNat (.ofNat 0)) = b21_0 := rfl
theorem m22 : Call (pG L xs) pM (d + 1) 22 as h Q = ((xent as).length ≤ 2 ∧ Ev (pG L xs) pM d b22 (none) Q b22_0 (xentry as 2) [] h) := rfl
theorem n22 : (pG L xs).2.1 22 = 1 := rfl
theorem k22_1 : b22 (Int.toNat (.ofNat 1)) = b22_1 := rfl
theorem k22_2 : b22 (Int.toNat (.ofNat 2)) = b22_2 := rfl
theorem k22_0 : b22 (Int.toNat (.ofNat 0)) = b22_0 := rfl
theorem m23 : Call (pG L xs) pM (d + 1) 23 as h Q = ((xent as).length ≤ 1 ∧ Ev (pG L xs) pM d b23 (none) Q b23_0 (xentry as 1) [] h) := rfl
theorem n23 : (pG L xs).2.1 23 = 1 := rfl
theorem c23 : (pG L xs).2.2.1 23 = 3 := rfl
theorem k23_0 : b23 (Int.toNat (.ofNat 0)) = b23_0 := rfl
theorem m24 : Call (pG L xs) pM (d + 1) 24 as h Q = ((xent as).length ≤ 2 ∧ Ev (pG L xs) pM d b24 (none) Q b24_0 (xentry as 2) [] h) := rfl
theorem n24 : (pG L xs).2.1 24 = 2 := rfl
theorem c24 : (pG L xs).2.2.1 24 = 3 := rfl
theorem k24_1 : b24 (Int.toNat (.ofNat 1)) = b24_1 := rfl
theorem k24_2 : b24 (Int.toNat (.ofNat 2)) = b24_2 := rfl
theorem k24_0 : b24 (Int.toNat (.ofNat 0)) = b24_0 := rfl
theorem m25 : Call (pG L xs) pM (d + 1) 25 as h Q = ((xent as).length ≤ 2 ∧ Ev (pG L xs) pM d b25 (none) Q b25_0 (xentry as 2) [] h) := rfl
theorem n25 : (pG L xs).2.1 25 = 2 := rfl
theorem c25 : (pG L xs).2.2.1 25 = 3 := rfl
theorem k25_1 : b25 (Int.toNat (.ofNat 1)) = b25_1 := rfl
theorem k25_2 : b25 (Int.toNat (.ofNat 2)) = b25_2 := rfl
theorem k25_3 : b25 (Int.toNat (.ofNat 3)) = b25_3 := rfl
theorem m26 : Call (pG L xs) pM (d + 1) 26 as h Q = ((xent as).length ≤ 1 ∧ Ev (pG L xs) pM d b26 (none) Q b26_0 (xentry as 1) [] h) := rfl
theorem n26 : (pG L xs).2.1 26 = 1 := rfl
theorem m27 : Call (pG L xs) pM (d + 1) 27 as h Q = ((xent as).length ≤ 2 ∧ Ev (pG L xs) pM d b27 (none) Q b27_0 (xentry as 2) [] h) := rfl
theorem n27 : (pG L xs).2.1 27 = 2 := rfl
theorem c27 : (pG L xs).2.2.1 27 = 4 := rfl
theorem k27_0 : b27 (Int.toNat (.ofNat 0)) = b27_0 := rfl
theorem m28 : Call (pG L xs) pM (d + 1) 28 as h Q = ((xent as).length ≤ 7 ∧ Ev (pG L xs) pM d b28 (none) Q b28_0 (xentry as 7) [] h) := rfl
theorem n28 : (pG L xs).2.1 28 = 6 := rfl
theorem c28 : (pG L xs).2.2.1 28 = 4 := rfl
theorem k28_1 : b28 (Int.toNat (.ofNat 1)) = b28_1 := rfl
theorem k28_2 : b28 (Int.toNat (.ofNat 2)) = b28_2 := rfl
theorem k28_3 : b28 (Int.toNat (.ofNat 3)) = b28_3 := rfl
theorem k28_4 : b28 (Int.toNat (.ofNat 4)) = b28_4 := rfl
theorem k28_5 : b28 (Int.toNat (.ofNat 5)) = b28_5 := rfl
theorem k28_6 : b28 (Int.toNat (.ofNat 6)) = b28_6 := rfl
theorem m29 : Call (pG L xs) pM (d + 1) 29 as h Q = ((xent as).length ≤ 3 ∧ Ev (pG L xs) pM d b29 (none) Q b29_0 (xentry as 3) [] h) := rfl
theorem n29 : (pG L xs).2.1 29 = 3 := rfl
theorem c29 : (pG L xs).2.2.1 29 = 4 := rfl
theorem k29_1 : b29 (Int.toNat (.ofNat 1)) = b29_1 := rfl
theorem k29_2 : b29 (Int.toNat (.ofNat 2)) = b29_2 := rfl
theorem k29_0 : b29 (Int.toNat (.ofNat 0)) = b29_0 := rfl
theorem m30 : Call (pG L xs) pM (d + 1) 30 as h Q = ((xent as).length ≤ 4 ∧ Ev (pG L xs) pM d b30 (some FieldType.int) Q b30_0 (xentry as 4) [] h) := rfl
theorem n30 : (pG L xs).2.1 30 = 3 := rfl
theorem c30 : (pG L xs).2.2.1 30 = 4 := rfl
theorem k30_1 : b30 (Int.toNat (.ofNat 1)) = b30_1 := rfl
theorem k30_2 : b30 (Int.toNat (.ofNat 2)) = b30_2 := rfl
theorem k30_3 : b30 (Int.toNat (.ofNat 3)) = b30_3 := rfl
theorem k30_4 : b30 (Int.toNat (.ofNat 4)) = b30_4 := rfl
theorem m31 : Call (pG L xs) pM (d + 1) 31 as h Q = ((xent as).length ≤ 4 ∧ Ev (pG L xs) pM d b31 (some FieldType.int) Q b31_0 (xentry as 4) [] h) := rfl
theorem n31 : (pG L xs).2.1 31 = 3 := rfl
theorem c31 : (pG L xs).2.2.1 31 = 4 := rfl
theorem k31_1 : b31 (Int.toNat (.ofNat 1)) = b31_1 := rfl
theorem k31_2 : b31 (Int.toNat (.ofNat 2)) = b31_2 := rfl
theorem k31_3 : b31 (Int.toNat (.ofNat 3)) = b31_3 := rfl
theorem k31_4 : b31 (Int.toNat (.ofNat 4)) = b31_4 := rfl
theorem k31_5 : b31 (Int.toNat (.ofNat 5)) = b31_5 := rfl
theorem k31_0 : b31 (Int.toNat (.ofNat 0)) = b31_0 := rfl
theorem m32 : Call (pG L xs) pM (d + 1) 32 as h Q = ((xent as).length ≤ 4 ∧ Ev (pG L xs) pM d b32 (none) Q b32_0 (xentry as 4) [] h) := rfl
theorem n32 : (pG L xs).2.1 32 = 2 := rfl
theorem c32 : (pG L xs).2.2.1 32 = 4 := rfl
theorem k32_1 : b32 (Int.toNat (.ofNat 1)) = b32_1 := rfl
theorem k32_2 : b32 (Int.toNat (.ofNat 2)) = b32_2 := rfl
theorem k32_3 : b32 (Int.toNat (.ofNat 3)) = b32_3 := rfl
theorem k32_4 : b32 (Int.toNat (.ofNat 4)) = b32_4 := rfl
theorem k32_5 : b32 (Int.toNat (.ofNat 5)) = b32_5 := rfl
theorem k32_6 : b32 (Int.toNat (.ofNat 6)) = b32_6 := rfl
theorem k32_7 : b32 (Int.toNat (.ofNat 7)) = b32_7 := rfl
theorem k32_8 : b32 (Int.toNat (.ofNat 8)) = b32_8 := rfl
theorem k32_0 : b32 (Int.toNat (.ofNat 0)) = b32_0 := rfl
theorem m33 : Call (pG L xs) pM (d + 1) 33 as h Q = ((xent as).length ≤ 3 ∧ Ev (pG L xs) pM d b33 (none) Q b33_0 (xentry as 3) [] h) := rfl
theorem n33 : (pG L xs).2.1 33 = 3 := rfl
theorem c33 : (pG L xs).2.2.1 33 = 4 := rfl
theorem k33_1 : b33 (Int.toNat (.ofNat 1)) = b33_1 := rfl
theorem m34 : Call (pG L xs) pM (d + 1) 34 as h Q = ((xent as).length ≤ 2 ∧ Ev (pG L xs) pM d b34 (some FieldType.int) Q b34_0 (xentry as 2) [] h) := rfl
theorem n34 : (pG L xs).2.1 34 = 2 := rfl
theorem c34 : (pG L xs).2.2.1 34 = 4 := rfl
theorem m35 : Call (pG L xs) pM (d + 1) 35 as h Q = ((xent as).length ≤ 4 ∧ Ev (pG L xs) pM d b35 (some FieldType.boolean) Q b35_0 (xentry as 4) [] h) := rfl
theorem n35 : (pG L xs).2.1 35 = 3 := rfl
theorem c35 : (pG L xs).2.2.1 35 = 4 := rfl
theorem k35_1 : b35 (Int.toNat (.ofNat 1)) = b35_1 := rfl
theorem k35_2 : b35 (Int.toNat (.ofNat 2)) = b35_2 := rfl
theorem k35_3 : b35 (Int.toNat (.ofNat 3)) = b35_3 := rfl
theorem k35_0 : b35 (Int.toNat (.ofNat 0)) = b35_0 := rfl
theorem m36 : Call (pG L xs) pM (d + 1) 36 as h Q = ((xent as).length ≤ 7 ∧ Ev (pG L xs) pM d b36 (none) Q b36_0 (xentry as 7) [] h) := rfl
theorem n36 : (pG L xs).2.1 36 = 2 := rfl
theorem c36 : (pG L xs).2.2.1 36 = 4 := rfl
theorem k36_1 : b36 (Int.toNat (.ofNat 1)) = b36_1 := rfl
theorem k36_2 : b36 (Int.toNat (.ofNat 2)) = b36_2 := rfl
theorem k36_3 : b36 (Int.toNat (.ofNat 3)) = b36_3 := rfl
theorem k36_4 : b36 (Int.toNat (.ofNat 4)) = b36_4 := rfl
theorem k36_5 : b36 (Int.toNat (.ofNat 5)) = b36_5 := rfl
theorem k36_0 : b36 (Int.toNat (.ofNat 0)) = b36_0 := rfl
theorem m37 : Call (pG L xs) pM (d + 1) 37 as h Q = ((xent as).length ≤ 5 ∧ Ev (pG L xs) pM d b37 (some FieldType.int) Q b37_0 (xentry as 5) [] h) := rfl
theorem n37 : (pG L xs).2.1 37 = 2 := rfl
theorem c37 : (pG L xs).2.2.1 37 = 4 := rfl
theorem k37_1 : b37 (Int.toNat (.ofNat 1)) = b37_1 := rfl
theorem k37_2 : b37 (Int.toNat (.ofNat 2)) = b37_2 := rfl
theorem k37_3 : b37 (Int.toNat (.ofNat 3)) = b37_3 := rfl
theorem k37_4 : b37 (Int.toNat (.ofNat 4)) = b37_4 := rfl
theorem k37_5 : b37 (Int.toNat (.ofNat 5)) = b37_5 := rfl
theorem k37_0 : b37 (Int.toNat (.ofNat 0)) = b37_0 := rfl
theorem m38 : Call (pG L xs) pM (d + 1) 38 as h Q = ((xent as).length ≤ 7 ∧ Ev (pG L xs) pM d b38 (some FieldType.int) Q b38_0 (xentry as 7) [] h) := rfl
theorem n38 : (pG L xs).2.1 38 = 5 := rfl
theorem k38_1 : b38 (Int.toNat (.ofNat 1)) = b38_1 := rfl
theorem k38_2 : b38 (Int.toNat (.ofNat 2)) = b38_2 := rfl
theorem k38_3 : b38 (Int.toNat (.ofNat 3)) = b38_3 := rfl
theorem k38_4 : b38 (Int.toNat (.ofNat 4)) = b38_4 := rfl
theorem k38_5 : b38 (Int.toNat (.ofNat 5)) = b38_5 := rfl
theorem k38_6 : b38 (Int.toNat (.ofNat 6)) = b38_6 := rfl
theorem k38_0 : b38 (Int.toNat (.ofNat 0)) = b38_0 := rfl
theorem m39 : Call (pG L xs) pM (d + 1) 39 as h Q = ((xent as).length ≤ 3 ∧ Ev (pG L xs) pM d b39 (some FieldType.boolean) Q b39_0 (xentry as 3) [] h) := rfl
theorem n39 : (pG L xs).2.1 39 = 3 := rfl
theorem k39_1 : b39 (Int.toNat (.ofNat 1)) = b39_1 := rfl
theorem k39_2 : b39 (Int.toNat (.ofNat 2)) = b39_2 := rfl
theorem k39_0 : b39 (Int.toNat (.ofNat 0)) = b39_0 := rfl
theorem m40 : Call (pG L xs) pM (d + 1) 40 as h Q = ((xent as).length ≤ 6 ∧ Ev (pG L xs) pM d b40 (some FieldType.int) Q b40_0 (xentry as 6) [] h) := rfl
theorem n40 : (pG L xs).2.1 40 = 2 := rfl
theorem c40 : (pG L xs).2.2.1 40 = 4 := rfl
theorem k40_1 : b40 (Int.toNat (.ofNat 1)) = b40_1 := rfl
theorem k40_2 : b40 (Int.toNat (.ofNat 2)) = b40_2 := rfl
theorem k40_3 : b40 (Int.toNat (.ofNat 3)) = b40_3 := rfl
theorem k40_4 : b40 (Int.toNat (.ofNat 4)) = b40_4 := rfl
theorem k40_5 : b40 (Int.toNat (.ofNat 5)) = b40_5 := rfl
theorem k40_6 : b40 (Int.toNat (.ofNat 6)) = b40_6 := rfl
theorem k40_7 : b40 (Int.toNat (.ofNat 7)) = b40_7 := rfl
theorem k40_8 : b40 (Int.toNat (.ofNat 8)) = b40_8 := rfl
theorem k40_9 : b40 (Int.toNat (.ofNat 9)) = b40_9 := rfl
theorem k40_0 : b40 (Int.toNat (.ofNat 0)) = b40_0 := rfl
theorem m41 : Call (pG L xs) pM (d + 1) 41 as h Q = ((xent as).length ≤ 4 ∧ Ev (pG L xs) pM d b41 (none) Q b41_0 (xentry as 4) [] h) := rfl
theorem n41 : (pG L xs).2.1 41 = 2 := rfl
theorem k41_1 : b41 (Int.toNat (.ofNat 1)) = b41_1 := rfl
theorem k41_2 : b41 (Int.toNat (.ofNat 2)) = b41_2 := rfl
theorem k41_3 : b41 (Int.toNat (.ofNat 3)) = b41_3 := rfl
theorem k41_4 : b41 (Int.toNat (.ofNat 4)) = b41_4 := rfl
theorem k41_5 : b41 (Int.toNat (.ofNat 5)) = b41_5 := rfl
theorem k41_0 : b41 (Int.toNat (.ofNat 0)) = b41_0 := rfl
theorem m42 : Call (pG L xs) pM (d + 1) 42 as h Q = ((xent as).length ≤ 1 ∧ Ev (pG L xs) pM d b42 (some FieldType.int) Q b42_0 (xentry as 1) [] h) := rfl
theorem n42 : (pG L xs).2.1 42 = 1 := rfl
theorem k42_1 : b42 (Int.toNat (.ofNat 1)) = b42_1 := rfl
theorem k42_2 : b42 (Int.toNat (.ofNat 2)) = b42_2 := rfl
theorem k42_3 : b42 (Int.toNat (.ofNat 3)) = b42_3 := rfl
theorem k42_4 : b42 (Int.toNat (.ofNat 4)) = b42_4 := rfl
theorem k42_5 : b42 (Int.toNat (.ofNat 5)) = b42_5 := rfl
theorem k42_6 : b42 (Int.toNat (.ofNat 6)) = b42_6 := rfl
theorem k42_7 : b42 (Int.toNat (.ofNat 7)) = b42_7 := rfl
theorem k42_0 : b42 (Int.toNat (.ofNat 0)) = b42_0 := rfl
theorem m43 : Call (pG L xs) pM (d + 1) 43 as h Q = ((xent as).length ≤ 5 ∧ Ev (pG L xs) pM d b43 (some FieldType.long) Q b43_0 (xentry as 5) [] h) := rfl
theorem n43 : (pG L xs).2.1 43 = 2 := rfl
theorem c43 : (pG L xs).2.2.1 43 = 5 := rfl
theorem k43_1 : b43 (Int.toNat (.ofNat 1)) = b43_1 := rfl
theorem k43_2 : b43 (Int.toNat (.ofNat 2)) = b43_2 := rfl
theorem k43_3 : b43 (Int.toNat (.ofNat 3)) = b43_3 := rfl
theorem k43_4 : b43 (Int.toNat (.ofNat 4)) = b43_4 := rfl
theorem k43_5 : b43 (Int.toNat (.ofNat 5)) = b43_5 := rfl
theorem k43_6 : b43 (Int.toNat (.ofNat 6)) = b43_6 := rfl
theorem k43_7 : b43 (Int.toNat (.ofNat 7)) = b43_7 := rfl
theorem k43_8 : b43 (Int.toNat (.ofNat 8)) = b43_8 := rfl
theorem k43_9 : b43 (Int.toNat (.ofNat 9)) = b43_9 := rfl
theorem k43_10 : b43 (Int.toNat (.ofNat 10)) = b43_10 := rfl
theorem k43_11 : b43 (Int.toNat (.ofNat 11)) = b43_11 := rfl
theorem k43_12 : b43 (Int.toNat (.ofNat 12)) = b43_12 := rfl
theorem k43_0 : b43 (Int.toNat (.ofNat 0)) = b43_0 := rfl
theorem m44 : Call (pG L xs) pM (d + 1) 44 as h Q = ((xent as).length ≤ 5 ∧ Ev (pG L xs) pM d b44 (some FieldType.long) Q b44_0 (xentry as 5) [] h) := rfl
theorem n44 : (pG L xs).2.1 44 = 3 := rfl
theorem k44_1 : b44 (Int.toNat (.ofNat 1)) = b44_1 := rfl
theorem k44_2 : b44 (Int.toNat (.ofNat 2)) = b44_2 := rfl
theorem k44_3 : b44 (Int.toNat (.ofNat 3)) = b44_3 := rfl
theorem k44_4 : b44 (Int.toNat (.ofNat 4)) = b44_4 := rfl
theorem k44_5 : b44 (Int.toNat (.ofNat 5)) = b44_5 := rfl
theorem k44_6 : b44 (Int.toNat (.ofNat 6)) = b44_6 := rfl
theorem k44_7 : b44 (Int.toNat (.ofNat 7)) = b44_7 := rfl
theorem k44_8 : b44 (Int.toNat (.ofNat 8)) = b44_8 := rfl
theorem k44_9 : b44 (Int.toNat (.ofNat 9)) = b44_9 := rfl
theorem k44_10 : b44 (Int.toNat (.ofNat 10)) = b44_10 := rfl
theorem k44_11 : b44 (Int.toNat (.ofNat 11)) = b44_11 := rfl
theorem k44_12 : b44 (Int.toNat (.ofNat 12)) = b44_12 := rfl
theorem k44_13 : b44 (Int.toNat (.ofNat 13)) = b44_13 := rfl
theorem k44_14 : b44 (Int.toNat (.ofNat 14)) = b44_14 := rfl
theorem k44_15 : b44 (Int.toNat (.ofNat 15)) = b44_15 := rfl
theorem k44_16 : b44 (Int.toNat (.ofNat 16)) = b44_16 := rfl
theorem k44_17 : b44 (Int.toNat (.ofNat 17)) = b44_17 := rfl
theorem k44_18 : b44 (Int.toNat (.ofNat 18)) = b44_18 := rfl
theorem k44_19 : b44 (Int.toNat (.ofNat 19)) = b44_19 := rfl
theorem k44_20 : b44 (Int.toNat (.ofNat 20)) = b44_20 := rfl
theorem k44_21 : b44 (Int.toNat (.ofNat 21)) = b44_21 := rfl
theorem k44_22 : b44 (Int.toNat (.ofNat 22)) = b44_22 := rfl
theorem k44_23 : b44 (Int.toNat (.ofNat 23)) = b44_23 := rfl
theorem k44_24 : b44 (Int.toNat (.ofNat 24)) = b44_24 := rfl
theorem k44_25 : b44 (Int.toNat (.ofNat 25)) = b44_25 := rfl
theorem k44_26 : b44 (Int.toNat (.ofNat 26)) = b44_26 := rfl
theorem k44_0 : b44 (Int.toNat (.ofNat 0)) = b44_0 := rfl
theorem m45 : Call (pG L xs) pM (d + 1) 45 as h Q = ((xent as).length ≤ 1 ∧ Ev (pG L xs) pM d b45 (none) Q b45_0 (xentry as 1) [] h) := rfl
theorem n45 : (pG L xs).2.1 45 = 1 := rfl
theorem m46 : Call (pG L xs) pM (d + 1) 46 as h Q = ((xent as).length ≤ 3 ∧ Ev (pG L xs) pM d b46 (some FieldType.int) Q b46_0 (xentry as 3) [] h) := rfl
theorem n46 : (pG L xs).2.1 46 = 2 := rfl
theorem c46 : (pG L xs).2.2.1 46 = 6 := rfl
theorem k46_1 : b46 (Int.toNat (.ofNat 1)) = b46_1 := rfl
theorem k46_2 : b46 (Int.toNat (.ofNat 2)) = b46_2 := rfl
theorem k46_0 : b46 (Int.toNat (.ofNat 0)) = b46_0 := rfl
theorem m47 : Call (pG L xs) pM (d + 1) 47 as h Q = ((xent as).length ≤ 1 ∧ Ev (pG L xs) pM d b47 (some (FieldType.object "RankFord$Rule")) Q b47_0 (xentry as 1) [] h) := rfl
theorem n47 : (pG L xs).2.1 47 = 1 := rfl
theorem c47 : (pG L xs).2.2.1 47 = 6 := rfl
theorem m48 : Call (pG L xs) pM (d + 1) 48 as h Q = ((xent as).length ≤ 2 ∧ Ev (pG L xs) pM d b48 (none) Q b48_0 (xentry as 2) [] h) := rfl
theorem n48 : (pG L xs).2.1 48 = 2 := rfl
theorem c48 : (pG L xs).2.2.1 48 = 6 := rfl
theorem k48_1 : b48 (Int.toNat (.ofNat 1)) = b48_1 := rfl
theorem k48_2 : b48 (Int.toNat (.ofNat 2)) = b48_2 := rfl
theorem k48_3 : b48 (Int.toNat (.ofNat 3)) = b48_3 := rfl
theorem k48_4 : b48 (Int.toNat (.ofNat 4)) = b48_4 := rfl
theorem k48_5 : b48 (Int.toNat (.ofNat 5)) = b48_5 := rfl
theorem k48_6 : b48 (Int.toNat (.ofNat 6)) = b48_6 := rfl
theorem m49 : Call (pG L xs) pM (d + 1) 49 as h Q = ((xent as).length ≤ 2 ∧ Ev (pG L xs) pM d b49 (none) Q b49_0 (xentry as 2) [] h) := rfl
theorem n49 : (pG L xs).2.1 49 = 2 := rfl
theorem c49 : (pG L xs).2.2.1 49 = 6 := rfl
theorem k49_1 : b49 (Int.toNat (.ofNat 1)) = b49_1 := rfl
theorem k49_2 : b49 (Int.toNat (.ofNat 2)) = b49_2 := rfl
theorem k49_3 : b49 (Int.toNat (.ofNat 3)) = b49_3 := rfl
theorem k49_0 : b49 (Int.toNat (.ofNat 0)) = b49_0 := rfl
theorem m50 : Call (pG L xs) pM (d + 1) 50 as h Q = ((xent as).length ≤ 3 ∧ Ev (pG L xs) pM d b50 (none) Q b50_0 (xentry as 3) [] h) := rfl
theorem n50 : (pG L xs).2.1 50 = 2 := rfl
theorem c50 : (pG L xs).2.2.1 50 = 6 := rfl
theorem k50_1 : b50 (Int.toNat (.ofNat 1)) = b50_1 := rfl
theorem k50_2 : b50 (Int.toNat (.ofNat 2)) = b50_2 := rfl
theorem k50_3 : b50 (Int.toNat (.ofNat 3)) = b50_3 := rfl
theorem k50_4 : b50 (Int.toNat (.ofNat 4)) = b50_4 := rfl
theorem k50_5 : b50 (Int.toNat (.ofNat 5)) = b50_5 := rfl
theorem k50_6 : b50 (Int.toNat (.ofNat 6)) = b50_6 := rfl
theorem m51 : Call (pG L xs) pM (d + 1) 51 as h Q = ((xent as).length ≤ 2 ∧ Ev (pG L xs) pM d b51 (none) Q b51_0 (xentry as 2) [] h) := rfl
theorem n51 : (pG L xs).2.1 51 = 2 := rfl
theorem c51 : (pG L xs).2.2.1 51 = 6 := rfl
theorem k51_1 : b51 (Int.toNat (.ofNat 1)) = b51_1 := rfl
theorem k51_2 : b51 (Int.toNat (.ofNat 2)) = b51_2 := rfl
theorem k51_3 : b51 (Int.toNat (.ofNat 3)) = b51_3 := rfl
theorem m52 : Call (pG L xs) pM (d + 1) 52 as h Q = ((xent as).length ≤ 3 ∧ Ev (pG L xs) pM d b52 (none) Q b52_0 (xentry as 3) [] h) := rfl
theorem n52 : (pG L xs).2.1 52 = 3 := rfl
theorem c52 : (pG L xs).2.2.1 52 = 6 := rfl
theorem k52_1 : b52 (Int.toNat (.ofNat 1)) = b52_1 := rfl
theorem k52_2 : b52 (Int.toNat (.ofNat 2)) = b52_2 := rfl
theorem m53 : Call (pG L xs) pM (d + 1) 53 as h Q = ((xent as).length ≤ 4 ∧ Ev (pG L xs) pM d b53 (none) Q b53_0 (xentry as 4) [] h) := rfl
theorem n53 : (pG L xs).2.1 53 = 2 := rfl
theorem c53 : (pG L xs).2.2.1 53 = 6 := rfl
theorem k53_1 : b53 (Int.toNat (.ofNat 1)) = b53_1 := rfl
theorem k53_2 : b53 (Int.toNat (.ofNat 2)) = b53_2 := rfl
theorem k53_3 : b53 (Int.toNat (.ofNat 3)) = b53_3 := rfl
theorem k53_4 : b53 (Int.toNat (.ofNat 4)) = b53_4 := rfl
theorem k53_5 : b53 (Int.toNat (.ofNat 5)) = b53_5 := rfl
theorem k53_6 : b53 (Int.toNat (.ofNat 6)) = b53_6 := rfl
theorem k53_0 : b53 (Int.toNat (.ofNat 0)) = b53_0 := rfl
theorem m54 : Call (pG L xs) pM (d + 1) 54 as h Q = ((xent as).length ≤ 3 ∧ Ev (pG L xs) pM d b54 (none) Q b54_0 (xentry as 3) [] h) := rfl
theorem n54 : (pG L xs).2.1 54 = 3 := rfl
theorem c54 : (pG L xs).2.2.1 54 = 6 := rfl
theorem k54_1 : b54 (Int.toNat (.ofNat 1)) = b54_1 := rfl
theorem m55 : Call (pG L xs) pM (d + 1) 55 as h Q = ((xent as).length ≤ 2 ∧ Ev (pG L xs) pM d b55 (none) Q b55_0 (xentry as 2) [] h) := rfl
theorem n55 : (pG L xs).2.1 55 = 2 := rfl
theorem c55 : (pG L xs).2.2.1 55 = 6 := rfl
theorem k55_1 : b55 (Int.toNat (.ofNat 1)) = b55_1 := rfl
theorem k55_2 : b55 (Int.toNat (.ofNat 2)) = b55_2 := rfl
theorem k55_3 : b55 (Int.toNat (.ofNat 3)) = b55_3 := rfl
theorem k55_4 : b55 (Int.toNat (.ofNat 4)) = b55_4 := rfl
theorem k55_5 : b55 (Int.toNat (.ofNat 5)) = b55_5 := rfl
theorem k55_0 : b55 (Int.toNat (.ofNat 0)) = b55_0 := rfl
theorem m56 : Call (pG L xs) pM (d + 1) 56 as h Q = ((xent as).length ≤ 3 ∧ Ev (pG L xs) pM d b56 (none) Q b56_0 (xentry as 3) [] h) := rfl
theorem n56 : (pG L xs).2.1 56 = 3 := rfl
theorem c56 : (pG L xs).2.2.1 56 = 6 := rfl
theorem m57 : Call (pG L xs) pM (d + 1) 57 as h Q = ((xent as).length ≤ 1 ∧ Ev (pG L xs) pM d b57 (none) Q b57_0 (xentry as 1) [] h) := rfl
theorem n57 : (pG L xs).2.1 57 = 1 := rfl
theorem c57 : (pG L xs).2.2.1 57 = 6 := rfl
theorem k57_1 : b57 (Int.toNat (.ofNat 1)) = b57_1 := rfl
theorem m58 : Call (pG L xs) pM (d + 1) 58 as h Q = ((xent as).length ≤ 3 ∧ Ev (pG L xs) pM d b58 (none) Q b58_0 (xentry as 3) [] h) := rfl
theorem n58 : (pG L xs).2.1 58 = 3 := rfl
theorem c58 : (pG L xs).2.2.1 58 = 6 := rfl
theorem k58_1 : b58 (Int.toNat (.ofNat 1)) = b58_1 := rfl
theorem k58_2 : b58 (Int.toNat (.ofNat 2)) = b58_2 := rfl
theorem k58_0 : b58 (Int.toNat (.ofNat 0)) = b58_0 := rfl
theorem m59 : Call (pG L xs) pM (d + 1) 59 as h Q = ((xent as).length ≤ 2 ∧ Ev (pG L xs) pM d b59 (none) Q b59_0 (xentry as 2) [] h) := rfl
theorem n59 : (pG L xs).2.1 59 = 2 := rfl
theorem c59 : (pG L xs).2.2.1 59 = 6 := rfl
theorem k59_1 : b59 (Int.toNat (.ofNat 1)) = b59_1 := rfl
theorem k59_2 : b59 (Int.toNat (.ofNat 2)) = b59_2 := rfl
theorem k59_0 : b59 (Int.toNat (.ofNat 0)) = b59_0 := rfl
theorem m60 : Call (pG L xs) pM (d + 1) 60 as h Q = ((xent as).length ≤ 2 ∧ Ev (pG L xs) pM d b60 (none) Q b60_0 (xentry as 2) [] h) := rfl
theorem n60 : (pG L xs).2.1 60 = 2 := rfl
theorem c60 : (pG L xs).2.2.1 60 = 6 := rfl
theorem k60_1 : b60 (Int.toNat (.ofNat 1)) = b60_1 := rfl
theorem m61 : Call (pG L xs) pM (d + 1) 61 as h Q = ((xent as).length ≤ 2 ∧ Ev (pG L xs) pM d b61 (none) Q b61_0 (xentry as 2) [] h) := rfl
theorem n61 : (pG L xs).2.1 61 = 2 := rfl
theorem c61 : (pG L xs).2.2.1 61 = 6 := rfl
theorem k61_1 : b61 (Int.toNat (.ofNat 1)) = b61_1 := rfl
theorem m62 : Call (pG L xs) pM (d + 1) 62 as h Q = ((xent as).length ≤ 1 ∧ Ev (pG L xs) pM d b62 (some FieldType.int) Q b62_0 (xentry as 1) [] h) := rfl
theorem n62 : (pG L xs).2.1 62 = 1 := rfl
theorem k62_1 : b62 (Int.toNat (.ofNat 1)) = b62_1 := rfl
theorem k62_2 : b62 (Int.toNat (.ofNat 2)) = b62_2 := rfl
theorem k62_3 : b62 (Int.toNat (.ofNat 3)) = b62_3 := rfl
theorem k62_4 : b62 (Int.toNat (.ofNat 4)) = b62_4 := rfl
theorem k62_5 : b62 (Int.toNat (.ofNat 5)) = b62_5 := rfl
theorem k62_6 : b62 (Int.toNat (.ofNat 6)) = b62_6 := rfl
theorem m63 : Call (pG L xs) pM (d + 1) 63 as h Q = ((xent as).length ≤ 1 ∧ Ev (pG L xs) pM d b63 (some FieldType.int) Q b63_0 (xentry as 1) [] h) := rfl
theorem n63 : (pG L xs).2.1 63 = 1 := rfl
theorem k63_1 : b63 (Int.toNat (.ofNat 1)) = b63_1 := rfl
theorem k63_2 : b63 (Int.toNat (.ofNat 2)) = b63_2 := rfl
theorem k63_3 : b63 (Int.toNat (.ofNat 3)) = b63_3 := rfl
theorem k63_4 : b63 (Int.toNat (.ofNat 4)) = b63_4 := rfl
theorem k63_5 : b63 (Int.toNat (.ofNat 5)) = b63_5 := rfl
theorem k63_6 : b63 (Int.toNat (.ofNat 6)) = b63_6 := rfl
theorem m64 : Call (pG L xs) pM (d + 1) 64 as h Q = ((xent as).length ≤ 1 ∧ Ev (pG L xs) pM d b64 (none) Q b64_0 (xentry as 1) [] h) := rfl
theorem n64 : (pG L xs).2.1 64 = 1 := rfl
theorem m65 : Call (pG L xs) pM (d + 1) 65 as h Q = ((xent as).length ≤ 2 ∧ Ev (pG L xs) pM d b65 (none) Q b65_0 (xentry as 2) [] h) := rfl
theorem n65 : (pG L xs).2.1 65 = 2 := rfl
theorem c65 : (pG L xs).2.2.1 65 = 7 := rfl
theorem k65_0 : b65 (Int.toNat (.ofNat 0)) = b65_0 := rfl
theorem m66 : Call (pG L xs) pM (d + 1) 66 as h Q = ((xent as).length ≤ 1 ∧ Ev (pG L xs) pM d b66 (some FieldType.boolean) Q b66_0 (xentry as 1) [] h) := rfl
theorem n66 : (pG L xs).2.1 66 = 1 := rfl
theorem c66 : (pG L xs).2.2.1 66 = 7 := rfl
theorem k66_1 : b66 (Int.toNat (.ofNat 1)) = b66_1 := rfl
theorem k66_2 : b66 (Int.toNat (.ofNat 2)) = b66_2 := rfl
theorem k66_0 : b66 (Int.toNat (.ofNat 0)) = b66_0 := rfl
theorem m67 : Call (pG L xs) pM (d + 1) 67 as h Q = ((xent as).length ≤ 4 ∧ Ev (pG L xs) pM d b67 (none) Q b67_0 (xentry as 4) [] h) := rfl
theorem n67 : (pG L xs).2.1 67 = 4 := rfl
theorem c67 : (pG L xs).2.2.1 67 = 7 := rfl
theorem k67_1 : b67 (Int.toNat (.ofNat 1)) = b67_1 := rfl
theorem m68 : Call (pG L xs) pM (d + 1) 68 as h Q = ((xent as).length ≤ 1 ∧ Ev (pG L xs) pM d b68 (none) Q b68_0 (xentry as 1) [] h) := rfl
theorem n68 : (pG L xs).2.1 68 = 1 := rfl
theorem m69 : Call (pG L xs) pM (d + 1) 69 as h Q = ((xent as).length ≤ 2 ∧ Ev (pG L xs) pM d b69 (some FieldType.boolean) Q b69_0 (xentry as 2) [] h) := rfl
theorem n69 : (pG L xs).2.1 69 = 2 := rfl
theorem c69 : (pG L xs).2.2.1 69 = 8 := rfl
theorem k69_1 : b69 (Int.toNat (.ofNat 1)) = b69_1 := rfl
theorem k69_2 : b69 (Int.toNat (.ofNat 2)) = b69_2 := rfl
theorem k69_0 : b69 (Int.toNat (.ofNat 0)) = b69_0 := rfl
theorem m70 : Call (pG L xs) pM (d + 1) 70 as h Q = ((xent as).length ≤ 3 ∧ Ev (pG L xs) pM d b70 (none) Q b70_0 (xentry as 3) [] h) := rfl
theorem n70 : (pG L xs).2.1 70 = 2 := rfl
theorem c70 : (pG L xs).2.2.1 70 = 8 := rfl
theorem k70_1 : b70 (Int.toNat (.ofNat 1)) = b70_1 := rfl
theorem k70_2 : b70 (Int.toNat (.ofNat 2)) = b70_2 := rfl
theorem m71 : Call (pG L xs) pM (d + 1) 71 as h Q = ((xent as).length ≤ 1 ∧ Ev (pG L xs) pM d b71 (none) Q b71_0 (xentry as 1) [] h) := rfl
theorem n71 : (pG L xs).2.1 71 = 1 := rfl
theorem c71 : (pG L xs).2.2.1 71 = 8 := rfl
theorem k71_0 : b71 (Int.toNat (.ofNat 0)) = b71_0 := rfl
theorem m72 : Call (pG L xs) pM (d + 1) 72 as h Q = ((xent as).length ≤ 2 ∧ Ev (pG L xs) pM d b72 (none) Q b72_0 (xentry as 2) [] h) := rfl
theorem n72 : (pG L xs).2.1 72 = 1 := rfl
theorem c72 : (pG L xs).2.2.1 72 = 8 := rfl
theorem k72_1 : b72 (Int.toNat (.ofNat 1)) = b72_1 := rfl
theorem k72_2 : b72 (Int.toNat (.ofNat 2)) = b72_2 := rfl
theorem k72_3 : b72 (Int.toNat (.ofNat 3)) = b72_3 := rfl
theorem k72_4 : b72 (Int.toNat (.ofNat 4)) = b72_4 := rfl
theorem k72_5 : b72 (Int.toNat (.ofNat 5)) = b72_5 := rfl
theorem k72_6 : b72 (Int.toNat (.ofNat 6)) = b72_6 := rfl
theorem m73 : Call (pG L xs) pM (d + 1) 73 as h Q = ((xent as).length ≤ 3 ∧ Ev (pG L xs) pM d b73 (none) Q b73_0 (xentry as 3) [] h) := rfl
theorem n73 : (pG L xs).2.1 73 = 3 := rfl
theorem c73 : (pG L xs).2.2.1 73 = 8 := rfl
theorem k73_1 : b73 (Int.toNat (.ofNat 1)) = b73_1 := rfl
theorem k73_0 : b73 (Int.toNat (.ofNat 0)) = b73_0 := rfl
theorem m74 : Call (pG L xs) pM (d + 1) 74 as h Q = ((xent as).length ≤ 3 ∧ Ev (pG L xs) pM d b74 (some FieldType.int) Q b74_0 (xentry as 3) [] h) := rfl
theorem n74 : (pG L xs).2.1 74 = 1 := rfl
theorem c74 : (pG L xs).2.2.1 74 = 8 := rfl
theorem k74_1 : b74 (Int.toNat (.ofNat 1)) = b74_1 := rfl
theorem k74_2 : b74 (Int.toNat (.ofNat 2)) = b74_2 := rfl
theorem k74_3 : b74 (Int.toNat (.ofNat 3)) = b74_3 := rfl
theorem k74_0 : b74 (Int.toNat (.ofNat 0)) = b74_0 := rfl
theorem m75 : Call (pG L xs) pM (d + 1) 75 as h Q = ((xent as).length ≤ 3 ∧ Ev (pG L xs) pM d b75 (none) Q b75_0 (xentry as 3) [] h) := rfl
theorem n75 : (pG L xs).2.1 75 = 2 := rfl
theorem c75 : (pG L xs).2.2.1 75 = 8 := rfl
theorem k75_1 : b75 (Int.toNat (.ofNat 1)) = b75_1 := rfl
theorem k75_2 : b75 (Int.toNat (.ofNat 2)) = b75_2 := rfl
theorem k75_3 : b75 (Int.toNat (.ofNat 3)) = b75_3 := rfl
theorem k75_4 : b75 (Int.toNat (.ofNat 4)) = b75_4 := rfl
theorem k75_0 : b75 (Int.toNat (.ofNat 0)) = b75_0 := rfl
theorem m76 : Call (pG L xs) pM (d + 1) 76 as h Q = ((xent as).length ≤ 2 ∧ Ev (pG L xs) pM d b76 (some FieldType.boolean) Q b76_0 (xentry as 2) [] h) := rfl
theorem n76 : (pG L xs).2.1 76 = 2 := rfl
theorem c76 : (pG L xs).2.2.1 76 = 8 := rfl
theorem k76_1 : b76 (Int.toNat (.ofNat 1)) = b76_1 := rfl
theorem k76_2 : b76 (Int.toNat (.ofNat 2)) = b76_2 := rfl
theorem k76_0 : b76 (Int.toNat (.ofNat 0)) = b76_0 := rfl
theorem m77 : Call (pG L xs) pM (d + 1) 77 as h Q = ((xent as).length ≤ 5 ∧ Ev (pG L xs) pM d b77 (some FieldType.int) Q b77_0 (xentry as 5) [] h) := rfl
theorem n77 : (pG L xs).2.1 77 = 2 := rfl
theorem c77 : (pG L xs).2.2.1 77 = 8 := rfl
theorem k77_1 : b77 (Int.toNat (.ofNat 1)) = b77_1 := rfl
theorem k77_2 : b77 (Int.toNat (.ofNat 2)) = b77_2 := rfl
theorem k77_3 : b77 (Int.toNat (.ofNat 3)) = b77_3 := rfl
theorem k77_4 : b77 (Int.toNat (.ofNat 4)) = b77_4 := rfl
theorem k77_5 : b77 (Int.toNat (.ofNat 5)) = b77_5 := rfl
theorem k77_0 : b77 (Int.toNat (.ofNat 0)) = b77_0 := rfl
theorem m78 : Call (pG L xs) pM (d + 1) 78 as h Q = ((xent as).length ≤ 5 ∧ Ev (pG L xs) pM d b78 (some FieldType.boolean) Q b78_0 (xentry as 5) [] h) := rfl
theorem n78 : (pG L xs).2.1 78 = 4 := rfl
theorem c78 : (pG L xs).2.2.1 78 = 8 := rfl
theorem k78_1 : b78 (Int.toNat (.ofNat 1)) = b78_1 := rfl
theorem k78_2 : b78 (Int.toNat (.ofNat 2)) = b78_2 := rfl
theorem k78_3 : b78 (Int.toNat (.ofNat 3)) = b78_3 := rfl
theorem k78_4 : b78 (Int.toNat (.ofNat 4)) = b78_4 := rfl
theorem k78_0 : b78 (Int.toNat (.ofNat 0)) = b78_0 := rfl
theorem m79 : Call (pG L xs) pM (d + 1) 79 as h Q = ((xent as).length ≤ 1 ∧ Ev (pG L xs) pM d b79 (some FieldType.boolean) Q b79_0 (xentry as 1) [] h) := rfl
theorem n79 : (pG L xs).2.1 79 = 1 := rfl
theorem c79 : (pG L xs).2.2.1 79 = 8 := rfl
theorem k79_1 : b79 (Int.toNat (.ofNat 1)) = b79_1 := rfl
theorem k79_2 : b79 (Int.toNat (.ofNat 2)) = b79_2 := rfl
theorem k79_3 : b79 (Int.toNat (.ofNat 3)) = b79_3 := rfl
theorem k79_0 : b79 (Int.toNat (.ofNat 0)) = b79_0 := rfl
theorem m80 : Call (pG L xs) pM (d + 1) 80 as h Q = ((xent as).length ≤ 2 ∧ Ev (pG L xs) pM d b80 (some FieldType.int) Q b80_0 (xentry as 2) [] h) := rfl
theorem n80 : (pG L xs).2.1 80 = 2 := rfl
theorem c80 : (pG L xs).2.2.1 80 = 8 := rfl
theorem m81 : Call (pG L xs) pM (d + 1) 81 as h Q = ((xent as).length ≤ 1 ∧ Ev (pG L xs) pM d b81 (none) Q b81_0 (xentry as 1) [] h) := rfl
theorem n81 : (pG L xs).2.1 81 = 1 := rfl
theorem m82 : Call (pG L xs) pM (d + 1) 82 as h Q = ((xent as).length ≤ 4 ∧ Ev (pG L xs) pM d b82 (some (FieldType.object "RankFord$World")) Q b82_0 (xentry as 4) [] h) := rfl
theorem n82 : (pG L xs).2.1 82 = 4 := rfl
theorem c82 : (pG L xs).2.2.1 82 = 9 := rfl
theorem m83 : Call (pG L xs) pM (d + 1) 83 as h Q = ((xent as).length ≤ 4 ∧ Ev (pG L xs) pM d b83 (some FieldType.int) Q b83_0 (xentry as 4) [] h) := rfl
theorem n83 : (pG L xs).2.1 83 = 3 := rfl
theorem c83 : (pG L xs).2.2.1 83 = 9 := rfl
theorem k83_1 : b83 (Int.toNat (.ofNat 1)) = b83_1 := rfl
theorem k83_2 : b83 (Int.toNat (.ofNat 2)) = b83_2 := rfl
theorem k83_3 : b83 (Int.toNat (.ofNat 3)) = b83_3 := rfl
theorem k83_0 : b83 (Int.toNat (.ofNat 0)) = b83_0 := rfl
theorem m84 : Call (pG L xs) pM (d + 1) 84 as h Q = ((xent as).length ≤ 5 ∧ Ev (pG L xs) pM d b84 (none) Q b84_0 (xentry as 5) [] h) := rfl
theorem n84 : (pG L xs).2.1 84 = 2 := rfl
theorem c84 : (pG L xs).2.2.1 84 = 9 := rfl
theorem k84_1 : b84 (Int.toNat (.ofNat 1)) = b84_1 := rfl
theorem k84_2 : b84 (Int.toNat (.ofNat 2)) = b84_2 := rfl
theorem k84_3 : b84 (Int.toNat (.ofNat 3)) = b84_3 := rfl
theorem k84_4 : b84 (Int.toNat (.ofNat 4)) = b84_4 := rfl
theorem k84_5 : b84 (Int.toNat (.ofNat 5)) = b84_5 := rfl
theorem k84_0 : b84 (Int.toNat (.ofNat 0)) = b84_0 := rfl
theorem m85 : Call (pG L xs) pM (d + 1) 85 as h Q = ((xent as).length ≤ 3 ∧ Ev (pG L xs) pM d b85 (some FieldType.int) Q b85_0 (xentry as 3) [] h) := rfl
theorem n85 : (pG L xs).2.1 85 = 1 := rfl
theorem c85 : (pG L xs).2.2.1 85 = 9 := rfl
theorem k85_1 : b85 (Int.toNat (.ofNat 1)) = b85_1 := rfl
theorem k85_2 : b85 (Int.toNat (.ofNat 2)) = b85_2 := rfl
theorem k85_3 : b85 (Int.toNat (.ofNat 3)) = b85_3 := rfl
theorem k85_0 : b85 (Int.toNat (.ofNat 0)) = b85_0 := rfl
theorem m86 : Call (pG L xs) pM (d + 1) 86 as h Q = ((xent as).length ≤ 4 ∧ Ev (pG L xs) pM d b86 (some FieldType.int) Q b86_0 (xentry as 4) [] h) := rfl
theorem n86 : (pG L xs).2.1 86 = 3 := rfl
theorem c86 : (pG L xs).2.2.1 86 = 9 := rfl
theorem k86_1 : b86 (Int.toNat (.ofNat 1)) = b86_1 := rfl
theorem k86_2 : b86 (Int.toNat (.ofNat 2)) = b86_2 := rfl
theorem k86_3 : b86 (Int.toNat (.ofNat 3)) = b86_3 := rfl
theorem k86_0 : b86 (Int.toNat (.ofNat 0)) = b86_0 := rfl
theorem m87 : Call (pG L xs) pM (d + 1) 87 as h Q = ((xent as).length ≤ 5 ∧ Ev (pG L xs) pM d b87 (some FieldType.int) Q b87_0 (xentry as 5) [] h) := rfl
theorem n87 : (pG L xs).2.1 87 = 4 := rfl
theorem c87 : (pG L xs).2.2.1 87 = 9 := rfl
theorem k87_1 : b87 (Int.toNat (.ofNat 1)) = b87_1 := rfl
theorem k87_2 : b87 (Int.toNat (.ofNat 2)) = b87_2 := rfl
theorem k87_3 : b87 (Int.toNat (.ofNat 3)) = b87_3 := rfl
theorem k87_0 : b87 (Int.toNat (.ofNat 0)) = b87_0 := rfl
theorem m88 : Call (pG L xs) pM (d + 1) 88 as h Q = ((xent as).length ≤ 6 ∧ Ev (pG L xs) pM d b88 (none) Q b88_0 (xentry as 6) [] h) := rfl
theorem n88 : (pG L xs).2.1 88 = 4 := rfl
theorem c88 : (pG L xs).2.2.1 88 = 9 := rfl
theorem k88_1 : b88 (Int.toNat (.ofNat 1)) = b88_1 := rfl
theorem k88_2 : b88 (Int.toNat (.ofNat 2)) = b88_2 := rfl
theorem k88_3 : b88 (Int.toNat (.ofNat 3)) = b88_3 := rfl
theorem k88_4 : b88 (Int.toNat (.ofNat 4)) = b88_4 := rfl
theorem k88_0 : b88 (Int.toNat (.ofNat 0)) = b88_0 := rfl
theorem m89 : Call (pG L xs) pM (d + 1) 89 as h Q = ((xent as).length ≤ 7 ∧ Ev (pG L xs) pM d b89 (none) Q b89_0 (xentry as 7) [] h) := rfl
theorem n89 : (pG L xs).2.1 89 = 6 := rfl
theorem c89 : (pG L xs).2.2.1 89 = 9 := rfl
theorem k89_1 : b89 (Int.toNat (.ofNat 1)) = b89_1 := rfl
theorem k89_2 : b89 (Int.toNat (.ofNat 2)) = b89_2 := rfl
theorem k89_0 : b89 (Int.toNat (.ofNat 0)) = b89_0 := rfl
theorem m90 : Call (pG L xs) pM (d + 1) 90 as h Q = ((xent as).length ≤ 5 ∧ Ev (pG L xs) pM d b90 (some FieldType.int) Q b90_0 (xentry as 5) [] h) := rfl
theorem n90 : (pG L xs).2.1 90 = 2 := rfl
theorem c90 : (pG L xs).2.2.1 90 = 9 := rfl
theorem k90_1 : b90 (Int.toNat (.ofNat 1)) = b90_1 := rfl
theorem k90_2 : b90 (Int.toNat (.ofNat 2)) = b90_2 := rfl
theorem k90_3 : b90 (Int.toNat (.ofNat 3)) = b90_3 := rfl
theorem k90_4 : b90 (Int.toNat (.ofNat 4)) = b90_4 := rfl
theorem k90_5 : b90 (Int.toNat (.ofNat 5)) = b90_5 := rfl
theorem k90_6 : b90 (Int.toNat (.ofNat 6)) = b90_6 := rfl
theorem k90_7 : b90 (Int.toNat (.ofNat 7)) = b90_7 := rfl
theorem k90_8 : b90 (Int.toNat (.ofNat 8)) = b90_8 := rfl
theorem k90_9 : b90 (Int.toNat (.ofNat 9)) = b90_9 := rfl
theorem k90_0 : b90 (Int.toNat (.ofNat 0)) = b90_0 := rfl
theorem m91 : Call (pG L xs) pM (d + 1) 91 as h Q = ((xent as).length ≤ 7 ∧ Ev (pG L xs) pM d b91 (some FieldType.boolean) Q b91_0 (xentry as 7) [] h) := rfl
theorem n91 : (pG L xs).2.1 91 = 3 := rfl
theorem c91 : (pG L xs).2.2.1 91 = 9 := rfl
theorem k91_1 : b91 (Int.toNat (.ofNat 1)) = b91_1 := rfl
theorem k91_2 : b91 (Int.toNat (.ofNat 2)) = b91_2 := rfl
theorem k91_3 : b91 (Int.toNat (.ofNat 3)) = b91_3 := rfl
theorem k91_4 : b91 (Int.toNat (.ofNat 4)) = b91_4 := rfl
theorem k91_5 : b91 (Int.toNat (.ofNat 5)) = b91_5 := rfl
theorem k91_6 : b91 (Int.toNat (.ofNat 6)) = b91_6 := rfl
theorem k91_7 : b91 (Int.toNat (.ofNat 7)) = b91_7 := rfl
theorem k91_8 : b91 (Int.toNat (.ofNat 8)) = b91_8 := rfl
theorem k91_0 : b91 (Int.toNat (.ofNat 0)) = b91_0 := rfl
theorem m92 : Call (pG L xs) pM (d + 1) 92 as h Q = ((xent as).length ≤ 6 ∧ Ev (pG L xs) pM d b92 (some FieldType.int) Q b92_0 (xentry as 6) [] h) := rfl
theorem n92 : (pG L xs).2.1 92 = 5 := rfl
theorem c92 : (pG L xs).2.2.1 92 = 9 := rfl
theorem k92_1 : b92 (Int.toNat (.ofNat 1)) = b92_1 := rfl
theorem k92_2 : b92 (Int.toNat (.ofNat 2)) = b92_2 := rfl
theorem k92_3 : b92 (Int.toNat (.ofNat 3)) = b92_3 := rfl
theorem m93 : Call (pG L xs) pM (d + 1) 93 as h Q = ((xent as).length ≤ 7 ∧ Ev (pG L xs) pM d b93 (none) Q b93_0 (xentry as 7) [] h) := rfl
theorem n93 : (pG L xs).2.1 93 = 6 := rfl
theorem c93 : (pG L xs).2.2.1 93 = 9 := rfl
theorem k93_1 : b93 (Int.toNat (.ofNat 1)) = b93_1 := rfl
theorem k93_2 : b93 (Int.toNat (.ofNat 2)) = b93_2 := rfl
theorem k93_0 : b93 (Int.toNat (.ofNat 0)) = b93_0 := rfl
theorem m94 : Call (pG L xs) pM (d + 1) 94 as h Q = ((xent as).length ≤ 7 ∧ Ev (pG L xs) pM d b94 (none) Q b94_0 (xentry as 7) [] h) := rfl
theorem n94 : (pG L xs).2.1 94 = 4 := rfl
theorem c94 : (pG L xs).2.2.1 94 = 9 := rfl
theorem k94_1 : b94 (Int.toNat (.ofNat 1)) = b94_1 := rfl
theorem k94_2 : b94 (Int.toNat (.ofNat 2)) = b94_2 := rfl
theorem k94_3 : b94 (Int.toNat (.ofNat 3)) = b94_3 := rfl
theorem k94_4 : b94 (Int.toNat (.ofNat 4)) = b94_4 := rfl
theorem k94_0 : b94 (Int.toNat (.ofNat 0)) = b94_0 := rfl
theorem m95 : Call (pG L xs) pM (d + 1) 95 as h Q = ((xent as).length ≤ 1 ∧ Ev (pG L xs) pM d b95 (some FieldType.int) Q b95_0 (xentry as 1) [] h) := rfl
theorem n95 : (pG L xs).2.1 95 = 1 := rfl
theorem c95 : (pG L xs).2.2.1 95 = 9 := rfl
theorem m96 : Call (pG L xs) pM (d + 1) 96 as h Q = ((xent as).length ≤ 1 ∧ Ev (pG L xs) pM d b96 (none) Q b96_0 (xentry as 1) [] h) := rfl
theorem n96 : (pG L xs).2.1 96 = 1 := rfl
theorem m97 : Call (pG L xs) pM (d + 1) 97 as h Q = ((xent as).length ≤ 2 ∧ Ev (pG L xs) pM d b97 (none) Q b97_0 (xentry as 2) [] h) := rfl
theorem n97 : (pG L xs).2.1 97 = 2 := rfl
theorem c97 : (pG L xs).2.2.1 97 = 10 := rfl
theorem k97_0 : b97 (Int.toNat (.ofNat 0)) = b97_0 := rfl
theorem m98 : Call (pG L xs) pM (d + 1) 98 as h Q = ((xent as).length ≤ 4 ∧ Ev (pG L xs) pM d b98 (none) Q b98_0 (xentry as 4) [] h) := rfl
theorem n98 : (pG L xs).2.1 98 = 3 := rfl
theorem c98 : (pG L xs).2.2.1 98 = 10 := rfl
theorem k98_1 : b98 (Int.toNat (.ofNat 1)) = b98_1 := rfl
theorem k98_2 : b98 (Int.toNat (.ofNat 2)) = b98_2 := rfl
theorem k98_3 : b98 (Int.toNat (.ofNat 3)) = b98_3 := rfl
theorem k98_4 : b98 (Int.toNat (.ofNat 4)) = b98_4 := rfl
theorem k98_0 : b98 (Int.toNat (.ofNat 0)) = b98_0 := rfl
theorem m99 : Call (pG L xs) pM (d + 1) 99 as h Q = ((xent as).length ≤ 4 ∧ Ev (pG L xs) pM d b99 (none) Q b99_0 (xentry as 4) [] h) := rfl
theorem n99 : (pG L xs).2.1 99 = 4 := rfl
theorem c99 : (pG L xs).2.2.1 99 = 10 := rfl
theorem k99_1 : b99 (Int.toNat (.ofNat 1)) = b99_1 := rfl
theorem k99_0 : b99 (Int.toNat (.ofNat 0)) = b99_0 := rfl
theorem m100 : Call (pG L xs) pM (d + 1) 100 as h Q = ((xent as).length ≤ 2 ∧ Ev (pG L xs) pM d b100 (some FieldType.boolean) Q b100_0 (xentry as 2) [] h) := rfl
theorem n100 : (pG L xs).2.1 100 = 2 := rfl
theorem c100 : (pG L xs).2.2.1 100 = 10 := rfl
theorem k100_1 : b100 (Int.toNat (.ofNat 1)) = b100_1 := rfl
theorem k100_2 : b100 (Int.toNat (.ofNat 2)) = b100_2 := rfl
theorem k100_0 : b100 (Int.toNat (.ofNat 0)) = b100_0 := rfl
theorem m101 : Call (pG L xs) pM (d + 1) 101 as h Q = ((xent as).length ≤ 1 ∧ Ev (pG L xs) pM d b101 (some FieldType.int) Q b101_0 (xentry as 1) [] h) := rfl
theorem n101 : (pG L xs).2.1 101 = 1 := rfl
theorem c101 : (pG L xs).2.2.1 101 = 10 := rfl
theorem m102 : Call (pG L xs) pM (d + 1) 102 as h Q = ((xent as).length ≤ 2 ∧ Ev (pG L xs) pM d b102 (some FieldType.int) Q b102_0 (xentry as 2) [] h) := rfl
theorem n102 : (pG L xs).2.1 102 = 2 := rfl
theorem c102 : (pG L xs).2.2.1 102 = 10 := rfl
theorem m103 : Call (pG L xs) pM (d + 1) 103 as h Q = ((xent as).length ≤ 2 ∧ Ev (pG L xs) pM d b103 (some FieldType.int) Q b103_0 (xentry as 2) [] h) := rfl
theorem n103 : (pG L xs).2.1 103 = 2 := rfl
theorem c103 : (pG L xs).2.2.1 103 = 10 := rfl
theorem k103_0 : b103 (Int.toNat (.ofNat 0)) = b103_0 := rfl
theorem m104 : Call (pG L xs) pM (d + 1) 104 as h Q = ((xent as).length ≤ 2 ∧ Ev (pG L xs) pM d b104 (some FieldType.int) Q b104_0 (xentry as 2) [] h) := rfl
theorem n104 : (pG L xs).2.1 104 = 2 := rfl
theorem c104 : (pG L xs).2.2.1 104 = 10 := rfl
theorem m105 : Call (pG L xs) pM (d + 1) 105 as h Q = ((xent as).length ≤ 2 ∧ Ev (pG L xs) pM d b105 (some FieldType.int) Q b105_0 (xentry as 2) [] h) := rfl
theorem n105 : (pG L xs).2.1 105 = 2 := rfl
theorem c105 : (pG L xs).2.2.1 105 = 10 := rfl
theorem m106 : Call (pG L xs) pM (d + 1) 106 as h Q = ((xent as).length ≤ 3 ∧ Ev (pG L xs) pM d b106 (none) Q b106_0 (xentry as 3) [] h) := rfl
theorem n106 : (pG L xs).2.1 106 = 3 := rfl
theorem c106 : (pG L xs).2.2.1 106 = 10 := rfl
theorem m107 : Call (pG L xs) pM (d + 1) 107 as h Q = ((xent as).length ≤ 3 ∧ Ev (pG L xs) pM d b107 (some FieldType.int) Q b107_0 (xentry as 3) [] h) := rfl
theorem n107 : (pG L xs).2.1 107 = 3 := rfl
theorem c107 : (pG L xs).2.2.1 107 = 10 := rfl
theorem m108 : Call (pG L xs) pM (d + 1) 108 as h Q = ((xent as).length ≤ 4 ∧ Ev (pG L xs) pM d b108 (none) Q b108_0 (xentry as 4) [] h) := rfl
theorem n108 : (pG L xs).2.1 108 = 4 := rfl
theorem c108 : (pG L xs).2.2.1 108 = 10 := rfl
theorem m109 : Call (pG L xs) pM (d + 1) 109 as h Q = ((xent as).length ≤ 5 ∧ Ev (pG L xs) pM d b109 (some FieldType.int) Q b109_0 (xentry as 5) [] h) := rfl
theorem n109 : (pG L xs).2.1 109 = 3 := rfl
theorem c109 : (pG L xs).2.2.1 109 = 10 := rfl
theorem k109_1 : b109 (Int.toNat (.ofNat 1)) = b109_1 := rfl
theorem k109_2 : b109 (Int.toNat (.ofNat 2)) = b109_2 := rfl
theorem k109_0 : b109 (Int.toNat (.ofNat 0)) = b109_0 := rfl
theorem m110 : Call (pG L xs) pM (d + 1) 110 as h Q = ((xent as).length ≤ 3 ∧ Ev (pG L xs) pM d b110 (some FieldType.boolean) Q b110_0 (xentry as 3) [] h) := rfl
theorem n110 : (pG L xs).2.1 110 = 3 := rfl
theorem c110 : (pG L xs).2.2.1 110 = 10 := rfl
theorem k110_1 : b110 (Int.toNat (.ofNat 1)) = b110_1 := rfl
theorem k110_2 : b110 (Int.toNat (.ofNat 2)) = b110_2 := rfl
theorem k110_0 : b110 (Int.toNat (.ofNat 0)) = b110_0 := rfl
theorem m111 : Call (pG L xs) pM (d + 1) 111 as h Q = ((xent as).length ≤ 3 ∧ Ev (pG L xs) pM d b111 (some FieldType.boolean) Q b111_0 (xentry as 3) [] h) := rfl
theorem n111 : (pG L xs).2.1 111 = 3 := rfl
theorem c111 : (pG L xs).2.2.1 111 = 10 := rfl
theorem k111_1 : b111 (Int.toNat (.ofNat 1)) = b111_1 := rfl
theorem k111_2 : b111 (Int.toNat (.ofNat 2)) = b111_2 := rfl
theorem k111_3 : b111 (Int.toNat (.ofNat 3)) = b111_3 := rfl
theorem k111_4 : b111 (Int.toNat (.ofNat 4)) = b111_4 := rfl
theorem k111_5 : b111 (Int.toNat (.ofNat 5)) = b111_5 := rfl
theorem k111_0 : b111 (Int.toNat (.ofNat 0)) = b111_0 := rfl
theorem m112 : Call (pG L xs) pM (d + 1) 112 as h Q = ((xent as).length ≤ 3 ∧ Ev (pG L xs) pM d b112 (some FieldType.boolean) Q b112_0 (xentry as 3) [] h) := rfl
theorem n112 : (pG L xs).2.1 112 = 2 := rfl
theorem c112 : (pG L xs).2.2.1 112 = 10 := rfl
theorem k112_1 : b112 (Int.toNat (.ofNat 1)) = b112_1 := rfl
theorem k112_2 : b112 (Int.toNat (.ofNat 2)) = b112_2 := rfl
theorem k112_3 : b112 (Int.toNat (.ofNat 3)) = b112_3 := rfl
theorem k112_0 : b112 (Int.toNat (.ofNat 0)) = b112_0 := rfl
theorem m113 : Call (pG L xs) pM (d + 1) 113 as h Q = ((xent as).length ≤ 3 ∧ Ev (pG L xs) pM d b113 (none) Q b113_0 (xentry as 3) [] h) := rfl
theorem n113 : (pG L xs).2.1 113 = 3 := rfl
theorem c113 : (pG L xs).2.2.1 113 = 10 := rfl
theorem k113_1 : b113 (Int.toNat (.ofNat 1)) = b113_1 := rfl
theorem m114 : Call (pG L xs) pM (d + 1) 114 as h Q = ((xent as).length ≤ 3 ∧ Ev (pG L xs) pM d b114 (none) Q b114_0 (xentry as 3) [] h) := rfl
theorem n114 : (pG L xs).2.1 114 = 2 := rfl
theorem c114 : (pG L xs).2.2.1 114 = 10 := rfl
theorem m115 : Call (pG L xs) pM (d + 1) 115 as h Q = ((xent as).length ≤ 4 ∧ Ev (pG L xs) pM d b115 (none) Q b115_0 (xentry as 4) [] h) := rfl
theorem n115 : (pG L xs).2.1 115 = 4 := rfl
theorem c115 : (pG L xs).2.2.1 115 = 10 := rfl
theorem m116 : Call (pG L xs) pM (d + 1) 116 as h Q = ((xent as).length ≤ 4 ∧ Ev (pG L xs) pM d b116 (some FieldType.int) Q b116_0 (xentry as 4) [] h) := rfl
theorem n116 : (pG L xs).2.1 116 = 2 := rfl
theorem c116 : (pG L xs).2.2.1 116 = 10 := rfl
theorem k116_1 : b116 (Int.toNat (.ofNat 1)) = b116_1 := rfl
theorem k116_2 : b116 (Int.toNat (.ofNat 2)) = b116_2 := rfl
theorem k116_3 : b116 (Int.toNat (.ofNat 3)) = b116_3 := rfl
theorem k116_0 : b116 (Int.toNat (.ofNat 0)) = b116_0 := rfl
theorem m117 : Call (pG L xs) pM (d + 1) 117 as h Q = ((xent as).length ≤ 2 ∧ Ev (pG L xs) pM d b117 (none) Q b117_0 (xentry as 2) [] h) := rfl
theorem n117 : (pG L xs).2.1 117 = 1 := rfl
theorem k117_1 : b117 (Int.toNat (.ofNat 1)) = b117_1 := rfl
theorem k117_2 : b117 (Int.toNat (.ofNat 2)) = b117_2 := rfl
theorem k117_0 : b117 (Int.toNat (.ofNat 0)) = b117_0 := rfl
theorem m118 : Call (pG L xs) pM (d + 1) 118 as h Q = ((xent as).length ≤ 6 ∧ Ev (pG L xs) pM d b118 (some FieldType.int) Q b118_0 (xentry as 6) [] h) := rfl
theorem n118 : (pG L xs).2.1 118 = 6 := rfl
theorem c118 : (pG L xs).2.2.1 118 = 11 := rfl
theorem k118_1 : b118 (Int.toNat (.ofNat 1)) = b118_1 := rfl
theorem m119 : Call (pG L xs) pM (d + 1) 119 as h Q = ((xent as).length ≤ 2 ∧ Ev (pG L xs) pM d b119 (some FieldType.int) Q b119_0 (xentry as 2) [] h) := rfl
theorem n119 : (pG L xs).2.1 119 = 2 := rfl
theorem c119 : (pG L xs).2.2.1 119 = 11 := rfl
theorem k119_1 : b119 (Int.toNat (.ofNat 1)) = b119_1 := rfl
theorem k119_2 : b119 (Int.toNat (.ofNat 2)) = b119_2 := rfl
theorem m120 : Call (pG L xs) pM (d + 1) 120 as h Q = ((xent as).length ≤ 2 ∧ Ev (pG L xs) pM d b120 (some FieldType.int) Q b120_0 (xentry as 2) [] h) := rfl
theorem n120 : (pG L xs).2.1 120 = 1 := rfl
theorem c120 : (pG L xs).2.2.1 120 = 11 := rfl
theorem k120_1 : b120 (Int.toNat (.ofNat 1)) = b120_1 := rfl
theorem k120_0 : b120 (Int.toNat (.ofNat 0)) = b120_0 := rfl
theorem m121 : Call (pG L xs) pM (d + 1) 121 as h Q = ((xent as).length ≤ 2 ∧ Ev (pG L xs) pM d b121 (some FieldType.int) Q b121_0 (xentry as 2) [] h) := rfl
theorem n121 : (pG L xs).2.1 121 = 1 := rfl
theorem c121 : (pG L xs).2.2.1 121 = 11 := rfl
theorem k121_1 : b121 (Int.toNat (.ofNat 1)) = b121_1 := rfl
theorem k121_2 : b121 (Int.toNat (.ofNat 2)) = b121_2 := rfl
theorem k121_0 : b121 (Int.toNat (.ofNat 0)) = b121_0 := rfl
theorem m122 : Call (pG L xs) pM (d + 1) 122 as h Q = ((xent as).length ≤ 3 ∧ Ev (pG L xs) pM d b122 (some FieldType.int) Q b122_0 (xentry as 3) [] h) := rfl
theorem n122 : (pG L xs).2.1 122 = 2 := rfl
theorem c122 : (pG L xs).2.2.1 122 = 11 := rfl
theorem k122_1 : b122 (Int.toNat (.ofNat 1)) = b122_1 := rfl
theorem k122_2 : b122 (Int.toNat (.ofNat 2)) = b122_2 := rfl
theorem m123 : Call (pG L xs) pM (d + 1) 123 as h Q = ((xent as).length ≤ 4 ∧ Ev (pG L xs) pM d b123 (some FieldType.int) Q b123_0 (xentry as 4) [] h) := rfl
theorem n123 : (pG L xs).2.1 123 = 3 := rfl
theorem c123 : (pG L xs).2.2.1 123 = 11 := rfl
theorem k123_1 : b123 (Int.toNat (.ofNat 1)) = b123_1 := rfl
theorem k123_2 : b123 (Int.toNat (.ofNat 2)) = b123_2 := rfl
theorem k123_3 : b123 (Int.toNat (.ofNat 3)) = b123_3 := rfl
theorem k123_4 : b123 (Int.toNat (.ofNat 4)) = b123_4 := rfl
theorem k123_5 : b123 (Int.toNat (.ofNat 5)) = b123_5 := rfl
theorem k123_6 : b123 (Int.toNat (.ofNat 6)) = b123_6 := rfl
theorem m124 : Call (pG L xs) pM (d + 1) 124 as h Q = ((xent as).length ≤ 3 ∧ Ev (pG L xs) pM d b124 (some FieldType.int) Q b124_0 (xentry as 3) [] h) := rfl
theorem n124 : (pG L xs).2.1 124 = 3 := rfl
theorem c124 : (pG L xs).2.2.1 124 = 11 := rfl
theorem k124_1 : b124 (Int.toNat (.ofNat 1)) = b124_1 := rfl
theorem k124_2 : b124 (Int.toNat (.ofNat 2)) = b124_2 := rfl
theorem m125 : Call (pG L xs) pM (d + 1) 125 as h Q = ((xent as).length ≤ 3 ∧ Ev (pG L xs) pM d b125 (some FieldType.int) Q b125_0 (xentry as 3) [] h) := rfl
theorem n125 : (pG L xs).2.1 125 = 3 := rfl
theorem c125 : (pG L xs).2.2.1 125 = 11 := rfl
theorem k125_1 : b125 (Int.toNat (.ofNat 1)) = b125_1 := rfl
theorem k125_2 : b125 (Int.toNat (.ofNat 2)) = b125_2 := rfl
theorem m126 : Call (pG L xs) pM (d + 1) 126 as h Q = ((xent as).length ≤ 2 ∧ Ev (pG L xs) pM d b126 (some FieldType.int) Q b126_0 (xentry as 2) [] h) := rfl
theorem n126 : (pG L xs).2.1 126 = 1 := rfl
theorem c126 : (pG L xs).2.2.1 126 = 11 := rfl
theorem k126_1 : b126 (Int.toNat (.ofNat 1)) = b126_1 := rfl
theorem k126_2 : b126 (Int.toNat (.ofNat 2)) = b126_2 := rfl
theorem m127 : Call (pG L xs) pM (d + 1) 127 as h Q = ((xent as).length ≤ 4 ∧ Ev (pG L xs) pM d b127 (some FieldType.int) Q b127_0 (xentry as 4) [] h) := rfl
theorem n127 : (pG L xs).2.1 127 = 3 := rfl
theorem c127 : (pG L xs).2.2.1 127 = 11 := rfl
theorem k127_1 : b127 (Int.toNat (.ofNat 1)) = b127_1 := rfl
theorem k127_2 : b127 (Int.toNat (.ofNat 2)) = b127_2 := rfl
theorem m128 : Call (pG L xs) pM (d + 1) 128 as h Q = ((xent as).length ≤ 6 ∧ Ev (pG L xs) pM d b128 (some FieldType.int) Q b128_0 (xentry as 6) [] h) := rfl
theorem n128 : (pG L xs).2.1 128 = 4 := rfl
theorem c128 : (pG L xs).2.2.1 128 = 11 := rfl
theorem k128_1 : b128 (Int.toNat (.ofNat 1)) = b128_1 := rfl
theorem k128_2 : b128 (Int.toNat (.ofNat 2)) = b128_2 := rfl
theorem k128_3 : b128 (Int.toNat (.ofNat 3)) = b128_3 := rfl
theorem k128_0 : b128 (Int.toNat (.ofNat 0)) = b128_0 := rfl
theorem m129 : Call (pG L xs) pM (d + 1) 129 as h Q = ((xent as).length ≤ 5 ∧ Ev (pG L xs) pM d b129 (some FieldType.int) Q b129_0 (xentry as 5) [] h) := rfl
theorem n129 : (pG L xs).2.1 129 = 4 := rfl
theorem c129 : (pG L xs).2.2.1 129 = 11 := rfl
theorem k129_1 : b129 (Int.toNat (.ofNat 1)) = b129_1 := rfl
theorem k129_2 : b129 (Int.toNat (.ofNat 2)) = b129_2 := rfl
theorem m130 : Call (pG L xs) pM (d + 1) 130 as h Q = ((xent as).length ≤ 4 ∧ Ev (pG L xs) pM d b130 (some FieldType.int) Q b130_0 (xentry as 4) [] h) := rfl
theorem n130 : (pG L xs).2.1 130 = 2 := rfl
theorem c130 : (pG L xs).2.2.1 130 = 11 := rfl
theorem k130_1 : b130 (Int.toNat (.ofNat 1)) = b130_1 := rfl
theorem k130_2 : b130 (Int.toNat (.ofNat 2)) = b130_2 := rfl
theorem k130_0 : b130 (Int.toNat (.ofNat 0)) = b130_0 := rfl
theorem m131 : Call (pG L xs) pM (d + 1) 131 as h Q = ((xent as).length ≤ 1 ∧ Ev (pG L xs) pM d b131 (some FieldType.int) Q b131_0 (xentry as 1) [] h) := rfl
theorem n131 : (pG L xs).2.1 131 = 1 := rfl
theorem c131 : (pG L xs).2.2.1 131 = 11 := rfl
theorem k131_1 : b131 (Int.toNat (.ofNat 1)) = b131_1 := rfl
theorem m132 : Call (pG L xs) pM (d + 1) 132 as h Q = ((xent as).length ≤ 5 ∧ Ev (pG L xs) pM d b132 (some FieldType.int) Q b132_0 (xentry as 5) [] h) := rfl
theorem n132 : (pG L xs).2.1 132 = 4 := rfl
theorem c132 : (pG L xs).2.2.1 132 = 11 := rfl
theorem k132_1 : b132 (Int.toNat (.ofNat 1)) = b132_1 := rfl
theorem k132_2 : b132 (Int.toNat (.ofNat 2)) = b132_2 := rfl
theorem k132_3 : b132 (Int.toNat (.ofNat 3)) = b132_3 := rfl
theorem k132_4 : b132 (Int.toNat (.ofNat 4)) = b132_4 := rfl
theorem k132_5 : b132 (Int.toNat (.ofNat 5)) = b132_5 := rfl
theorem k132_0 : b132 (Int.toNat (.ofNat 0)) = b132_0 := rfl
theorem m133 : Call (pG L xs) pM (d + 1) 133 as h Q = ((xent as).length ≤ 1 ∧ Ev (pG L xs) pM d b133 (some FieldType.int) Q b133_0 (xentry as 1) [] h) := rfl
theorem n133 : (pG L xs).2.1 133 = 1 := rfl
theorem c133 : (pG L xs).2.2.1 133 = 11 := rfl
theorem k133_1 : b133 (Int.toNat (.ofNat 1)) = b133_1 := rfl
theorem k133_2 : b133 (Int.toNat (.ofNat 2)) = b133_2 := rfl
theorem m134 : Call (pG L xs) pM (d + 1) 134 as h Q = ((xent as).length ≤ 3 ∧ Ev (pG L xs) pM d b134 (some FieldType.int) Q b134_0 (xentry as 3) [] h) := rfl
theorem n134 : (pG L xs).2.1 134 = 2 := rfl
theorem c134 : (pG L xs).2.2.1 134 = 11 := rfl
theorem k134_1 : b134 (Int.toNat (.ofNat 1)) = b134_1 := rfl
theorem k134_2 : b134 (Int.toNat (.ofNat 2)) = b134_2 := rfl
theorem k134_3 : b134 (Int.toNat (.ofNat 3)) = b134_3 := rfl
theorem k134_4 : b134 (Int.toNat (.ofNat 4)) = b134_4 := rfl
theorem k134_5 : b134 (Int.toNat (.ofNat 5)) = b134_5 := rfl
theorem k134_6 : b134 (Int.toNat (.ofNat 6)) = b134_6 := rfl
theorem k134_7 : b134 (Int.toNat (.ofNat 7)) = b134_7 := rfl
theorem k134_0 : b134 (Int.toNat (.ofNat 0)) = b134_0 := rfl
theorem m135 : Call (pG L xs) pM (d + 1) 135 as h Q = ((xent as).length ≤ 2 ∧ Ev (pG L xs) pM d b135 (some FieldType.int) Q b135_0 (xentry as 2) [] h) := rfl
theorem n135 : (pG L xs).2.1 135 = 2 := rfl
theorem c135 : (pG L xs).2.2.1 135 = 11 := rfl
theorem k135_1 : b135 (Int.toNat (.ofNat 1)) = b135_1 := rfl
theorem k135_2 : b135 (Int.toNat (.ofNat 2)) = b135_2 := rfl
theorem k135_0 : b135 (Int.toNat (.ofNat 0)) = b135_0 := rfl
theorem m136 : Call (pG L xs) pM (d + 1) 136 as h Q = ((xent as).length ≤ 3 ∧ Ev (pG L xs) pM d b136 (some FieldType.int) Q b136_0 (xentry as 3) [] h) := rfl
theorem n136 : (pG L xs).2.1 136 = 2 := rfl
theorem c136 : (pG L xs).2.2.1 136 = 11 := rfl
theorem k136_1 : b136 (Int.toNat (.ofNat 1)) = b136_1 := rfl
theorem k136_2 : b136 (Int.toNat (.ofNat 2)) = b136_2 := rfl
theorem k136_3 : b136 (Int.toNat (.ofNat 3)) = b136_3 := rfl
theorem k136_4 : b136 (Int.toNat (.ofNat 4)) = b136_4 := rfl
theorem k136_5 : b136 (Int.toNat (.ofNat 5)) = b136_5 := rfl
theorem k136_0 : b136 (Int.toNat (.ofNat 0)) = b136_0 := rfl
theorem m137 : Call (pG L xs) pM (d + 1) 137 as h Q = ((xent as).length ≤ 2 ∧ Ev (pG L xs) pM d b137 (some FieldType.int) Q b137_0 (xentry as 2) [] h) := rfl
theorem n137 : (pG L xs).2.1 137 = 2 := rfl
theorem c137 : (pG L xs).2.2.1 137 = 11 := rfl
theorem k137_1 : b137 (Int.toNat (.ofNat 1)) = b137_1 := rfl
theorem k137_2 : b137 (Int.toNat (.ofNat 2)) = b137_2 := rfl
theorem k137_3 : b137 (Int.toNat (.ofNat 3)) = b137_3 := rfl
theorem k137_4 : b137 (Int.toNat (.ofNat 4)) = b137_4 := rfl
theorem k137_5 : b137 (Int.toNat (.ofNat 5)) = b137_5 := rfl
theorem k137_0 : b137 (Int.toNat (.ofNat 0)) = b137_0 := rfl
theorem m138 : Call (pG L xs) pM (d + 1) 138 as h Q = ((xent as).length ≤ 2 ∧ Ev (pG L xs) pM d b138 (some FieldType.int) Q b138_0 (xentry as 2) [] h) := rfl
theorem n138 : (pG L xs).2.1 138 = 2 := rfl
theorem c138 : (pG L xs).2.2.1 138 = 11 := rfl
theorem k138_1 : b138 (Int.toNat (.ofNat 1)) = b138_1 := rfl
theorem k138_2 : b138 (Int.toNat (.ofNat 2)) = b138_2 := rfl
theorem m139 : Call (pG L xs) pM (d + 1) 139 as h Q = ((xent as).length ≤ 1 ∧ Ev (pG L xs) pM d b139 (some FieldType.int) Q b139_0 (xentry as 1) [] h) := rfl
theorem n139 : (pG L xs).2.1 139 = 1 := rfl
theorem c139 : (pG L xs).2.2.1 139 = 11 := rfl
theorem k139_1 : b139 (Int.toNat (.ofNat 1)) = b139_1 := rfl
theorem k139_2 : b139 (Int.toNat (.ofNat 2)) = b139_2 := rfl
theorem m140 : Call (pG L xs) pM (d + 1) 140 as h Q = ((xent as).length ≤ 4 ∧ Ev (pG L xs) pM d b140 (some FieldType.int) Q b140_0 (xentry as 4) [] h) := rfl
theorem n140 : (pG L xs).2.1 140 = 3 := rfl
theorem c140 : (pG L xs).2.2.1 140 = 11 := rfl
theorem k140_1 : b140 (Int.toNat (.ofNat 1)) = b140_1 := rfl
theorem k140_2 : b140 (Int.toNat (.ofNat 2)) = b140_2 := rfl
theorem m141 : Call (pG L xs) pM (d + 1) 141 as h Q = ((xent as).length ≤ 3 ∧ Ev (pG L xs) pM d b141 (some FieldType.int) Q b141_0 (xentry as 3) [] h) := rfl
theorem n141 : (pG L xs).2.1 141 = 3 := rfl
theorem c141 : (pG L xs).2.2.1 141 = 11 := rfl
theorem k141_1 : b141 (Int.toNat (.ofNat 1)) = b141_1 := rfl
theorem k141_2 : b141 (Int.toNat (.ofNat 2)) = b141_2 := rfl
theorem k141_3 : b141 (Int.toNat (.ofNat 3)) = b141_3 := rfl
theorem k141_4 : b141 (Int.toNat (.ofNat 4)) = b141_4 := rfl
theorem k141_0 : b141 (Int.toNat (.ofNat 0)) = b141_0 := rfl
theorem m142 : Call (pG L xs) pM (d + 1) 142 as h Q = ((xent as).length ≤ 5 ∧ Ev (pG L xs) pM d b142 (some FieldType.int) Q b142_0 (xentry as 5) [] h) := rfl
theorem n142 : (pG L xs).2.1 142 = 5 := rfl
theorem c142 : (pG L xs).2.2.1 142 = 11 := rfl
theorem k142_1 : b142 (Int.toNat (.ofNat 1)) = b142_1 := rfl
theorem k142_2 : b142 (Int.toNat (.ofNat 2)) = b142_2 := rfl
theorem k142_0 : b142 (Int.toNat (.ofNat 0)) = b142_0 := rfl
theorem m143 : Call (pG L xs) pM (d + 1) 143 as h Q = ((xent as).length ≤ 4 ∧ Ev (pG L xs) pM d b143 (some FieldType.int) Q b143_0 (xentry as 4) [] h) := rfl
theorem n143 : (pG L xs).2.1 143 = 3 := rfl
theorem c143 : (pG L xs).2.2.1 143 = 11 := rfl
theorem k143_1 : b143 (Int.toNat (.ofNat 1)) = b143_1 := rfl
theorem k143_2 : b143 (Int.toNat (.ofNat 2)) = b143_2 := rfl
theorem m144 : Call (pG L xs) pM (d + 1) 144 as h Q = ((xent as).length ≤ 4 ∧ Ev (pG L xs) pM d b144 (some FieldType.int) Q b144_0 (xentry as 4) [] h) := rfl
theorem n144 : (pG L xs).2.1 144 = 4 := rfl
theorem c144 : (pG L xs).2.2.1 144 = 11 := rfl
theorem k144_1 : b144 (Int.toNat (.ofNat 1)) = b144_1 := rfl
theorem k144_2 : b144 (Int.toNat (.ofNat 2)) = b144_2 := rfl
theorem k144_3 : b144 (Int.toNat (.ofNat 3)) = b144_3 := rfl
theorem k144_0 : b144 (Int.toNat (.ofNat 0)) = b144_0 := rfl
theorem m145 : Call (pG L xs) pM (d + 1) 145 as h Q = ((xent as).length ≤ 2 ∧ Ev (pG L xs) pM d b145 (some FieldType.int) Q b145_0 (xentry as 2) [] h) := rfl
theorem n145 : (pG L xs).2.1 145 = 2 := rfl
theorem c145 : (pG L xs).2.2.1 145 = 11 := rfl
theorem k145_1 : b145 (Int.toNat (.ofNat 1)) = b145_1 := rfl
theorem k145_2 : b145 (Int.toNat (.ofNat 2)) = b145_2 := rfl
theorem k145_3 : b145 (Int.toNat (.ofNat 3)) = b145_3 := rfl
theorem k145_4 : b145 (Int.toNat (.ofNat 4)) = b145_4 := rfl
theorem k145_0 : b145 (Int.toNat (.ofNat 0)) = b145_0 := rfl
theorem m146 : Call (pG L xs) pM (d + 1) 146 as h Q = ((xent as).length ≤ 2 ∧ Ev (pG L xs) pM d b146 (some FieldType.int) Q b146_0 (xentry as 2) [] h) := rfl
theorem n146 : (pG L xs).2.1 146 = 2 := rfl
theorem c146 : (pG L xs).2.2.1 146 = 11 := rfl
theorem k146_1 : b146 (Int.toNat (.ofNat 1)) = b146_1 := rfl
theorem k146_2 : b146 (Int.toNat (.ofNat 2)) = b146_2 := rfl
theorem k146_0 : b146 (Int.toNat (.ofNat 0)) = b146_0 := rfl
theorem m147 : Call (pG L xs) pM (d + 1) 147 as h Q = ((xent as).length ≤ 3 ∧ Ev (pG L xs) pM d b147 (some FieldType.int) Q b147_0 (xentry as 3) [] h) := rfl
theorem n147 : (pG L xs).2.1 147 = 2 := rfl
theorem c147 : (pG L xs).2.2.1 147 = 11 := rfl
theorem k147_1 : b147 (Int.toNat (.ofNat 1)) = b147_1 := rfl
theorem m148 : Call (pG L xs) pM (d + 1) 148 as h Q = ((xent as).length ≤ 5 ∧ Ev (pG L xs) pM d b148 (some FieldType.int) Q b148_0 (xentry as 5) [] h) := rfl
theorem n148 : (pG L xs).2.1 148 = 5 := rfl
theorem c148 : (pG L xs).2.2.1 148 = 11 := rfl
theorem k148_1 : b148 (Int.toNat (.ofNat 1)) = b148_1 := rfl
theorem k148_2 : b148 (Int.toNat (.ofNat 2)) = b148_2 := rfl
theorem k148_3 : b148 (Int.toNat (.ofNat 3)) = b148_3 := rfl
theorem k148_4 : b148 (Int.toNat (.ofNat 4)) = b148_4 := rfl
theorem k148_5 : b148 (Int.toNat (.ofNat 5)) = b148_5 := rfl
theorem k148_6 : b148 (Int.toNat (.ofNat 6)) = b148_6 := rfl
theorem k148_0 : b148 (Int.toNat (.ofNat 0)) = b148_0 := rfl
theorem m149 : Call (pG L xs) pM (d + 1) 149 as h Q = ((xent as).length ≤ 3 ∧ Ev (pG L xs) pM d b149 (some FieldType.int) Q b149_0 (xentry as 3) [] h) := rfl
theorem n149 : (pG L xs).2.1 149 = 2 := rfl
theorem c149 : (pG L xs).2.2.1 149 = 11 := rfl
theorem k149_1 : b149 (Int.toNat (.ofNat 1)) = b149_1 := rfl
theorem k149_2 : b149 (Int.toNat (.ofNat 2)) = b149_2 := rfl
theorem k149_3 : b149 (Int.toNat (.ofNat 3)) = b149_3 := rfl
theorem k149_4 : b149 (Int.toNat (.ofNat 4)) = b149_4 := rfl
theorem k149_5 : b149 (Int.toNat (.ofNat 5)) = b149_5 := rfl
theorem k149_6 : b149 (Int.toNat (.ofNat 6)) = b149_6 := rfl
theorem k149_7 : b149 (Int.toNat (.ofNat 7)) = b149_7 := rfl
theorem k149_8 : b149 (Int.toNat (.ofNat 8)) = b149_8 := rfl
theorem k149_9 : b149 (Int.toNat (.ofNat 9)) = b149_9 := rfl
theorem k149_10 : b149 (Int.toNat (.ofNat 10)) = b149_10 := rfl
theorem k149_11 : b149 (Int.toNat (.ofNat 11)) = b149_11 := rfl
theorem k149_12 : b149 (Int.toNat (.ofNat 12)) = b149_12 := rfl
theorem k149_13 : b149 (Int.toNat (.ofNat 13)) = b149_13 := rfl
theorem m150 : Call (pG L xs) pM (d + 1) 150 as h Q = ((xent as).length ≤ 2 ∧ Ev (pG L xs) pM d b150 (some FieldType.int) Q b150_0 (xentry as 2) [] h) := rfl
theorem n150 : (pG L xs).2.1 150 = 2 := rfl
theorem c150 : (pG L xs).2.2.1 150 = 11 := rfl
theorem k150_1 : b150 (Int.toNat (.ofNat 1)) = b150_1 := rfl
theorem k150_0 : b150 (Int.toNat (.ofNat 0)) = b150_0 := rfl
theorem m151 : Call (pG L xs) pM (d + 1) 151 as h Q = ((xent as).length ≤ 2 ∧ Ev (pG L xs) pM d b151 (some FieldType.int) Q b151_0 (xentry as 2) [] h) := rfl
theorem n151 : (pG L xs).2.1 151 = 2 := rfl
theorem c151 : (pG L xs).2.2.1 151 = 11 := rfl
theorem k151_1 : b151 (Int.toNat (.ofNat 1)) = b151_1 := rfl
theorem k151_2 : b151 (Int.toNat (.ofNat 2)) = b151_2 := rfl
theorem k151_0 : b151 (Int.toNat (.ofNat 0)) = b151_0 := rfl
theorem m152 : Call (pG L xs) pM (d + 1) 152 as h Q = ((xent as).length ≤ 2 ∧ Ev (pG L xs) pM d b152 (some (FieldType.object "RankFord$Rule")) Q b152_0 (xentry as 2) [] h) := rfl
theorem n152 : (pG L xs).2.1 152 = 1 := rfl
theorem c152 : (pG L xs).2.2.1 152 = 11 := rfl
theorem k152_1 : b152 (Int.toNat (.ofNat 1)) = b152_1 := rfl
theorem k152_2 : b152 (Int.toNat (.ofNat 2)) = b152_2 := rfl
theorem m153 : Call (pG L xs) pM (d + 1) 153 as h Q = ((xent as).length ≤ 3 ∧ Ev (pG L xs) pM d b153 (some FieldType.boolean) Q b153_0 (xentry as 3) [] h) := rfl
theorem n153 : (pG L xs).2.1 153 = 3 := rfl
theorem c153 : (pG L xs).2.2.1 153 = 11 := rfl
theorem k153_1 : b153 (Int.toNat (.ofNat 1)) = b153_1 := rfl
theorem k153_2 : b153 (Int.toNat (.ofNat 2)) = b153_2 := rfl
theorem k153_0 : b153 (Int.toNat (.ofNat 0)) = b153_0 := rfl
theorem m154 : Call (pG L xs) pM (d + 1) 154 as h Q = ((xent as).length ≤ 3 ∧ Ev (pG L xs) pM d b154 (some FieldType.boolean) Q b154_0 (xentry as 3) [] h) := rfl
theorem n154 : (pG L xs).2.1 154 = 3 := rfl
theorem c154 : (pG L xs).2.2.1 154 = 11 := rfl
theorem k154_1 : b154 (Int.toNat (.ofNat 1)) = b154_1 := rfl
theorem k154_2 : b154 (Int.toNat (.ofNat 2)) = b154_2 := rfl
theorem k154_0 : b154 (Int.toNat (.ofNat 0)) = b154_0 := rfl
theorem m155 : Call (pG L xs) pM (d + 1) 155 as h Q = ((xent as).length ≤ 3 ∧ Ev (pG L xs) pM d b155 (some FieldType.boolean) Q b155_0 (xentry as 3) [] h) := rfl
theorem n155 : (pG L xs).2.1 155 = 3 := rfl
theorem k155_1 : b155 (Int.toNat (.ofNat 1)) = b155_1 := rfl
theorem k155_2 : b155 (Int.toNat (.ofNat 2)) = b155_2 := rfl
theorem k155_0 : b155 (Int.toNat (.ofNat 0)) = b155_0 := rfl
theorem m156 : Call (pG L xs) pM (d + 1) 156 as h Q = ((xent as).length ≤ 1 ∧ Ev (pG L xs) pM d b156 (none) Q b156_0 (xentry as 1) [] h) := rfl
theorem n156 : (pG L xs).2.1 156 = 1 := rfl
theorem m157 : Call (pG L xs) pM (d + 1) 157 as h Q = ((xent as).length ≤ 6 ∧ Ev (pG L xs) pM d b157 (some FieldType.boolean) Q b157_0 (xentry as 6) [] h) := rfl
theorem n157 : (pG L xs).2.1 157 = 3 := rfl
theorem k157_1 : b157 (Int.toNat (.ofNat 1)) = b157_1 := rfl
theorem k157_2 : b157 (Int.toNat (.ofNat 2)) = b157_2 := rfl
theorem k157_0 : b157 (Int.toNat (.ofNat 0)) = b157_0 := rfl
theorem m158 : Call (pG L xs) pM (d + 1) 158 as h Q = ((xent as).length ≤ 2 ∧ Ev (pG L xs) pM d b158 (some FieldType.boolean) Q b158_0 (xentry as 2) [] h) := rfl
theorem n158 : (pG L xs).2.1 158 = 2 := rfl
theorem k158_1 : b158 (Int.toNat (.ofNat 1)) = b158_1 := rfl
theorem k158_2 : b158 (Int.toNat (.ofNat 2)) = b158_2 := rfl
theorem k158_0 : b158 (Int.toNat (.ofNat 0)) = b158_0 := rfl
theorem m159 : Call (pG L xs) pM (d + 1) 159 as h Q = ((xent as).length ≤ 3 ∧ Ev (pG L xs) pM d b159 (some FieldType.int) Q b159_0 (xentry as 3) [] h) := rfl
theorem n159 : (pG L xs).2.1 159 = 1 := rfl
theorem k159_1 : b159 (Int.toNat (.ofNat 1)) = b159_1 := rfl
theorem k159_2 : b159 (Int.toNat (.ofNat 2)) = b159_2 := rfl
theorem k159_0 : b159 (Int.toNat (.ofNat 0)) = b159_0 := rfl
theorem m160 : Call (pG L xs) pM (d + 1) 160 as h Q = ((xent as).length ≤ 2 ∧ Ev (pG L xs) pM d b160 (some FieldType.int) Q b160_0 (xentry as 2) [] h) := rfl
theorem n160 : (pG L xs).2.1 160 = 2 := rfl
theorem k160_1 : b160 (Int.toNat (.ofNat 1)) = b160_1 := rfl
theorem k160_2 : b160 (Int.toNat (.ofNat 2)) = b160_2 := rfl
theorem m161 : Call (pG L xs) pM (d + 1) 161 as h Q = ((xent as).length ≤ 3 ∧ Ev (pG L xs) pM d b161 (none) Q b161_0 (xentry as 3) [] h) := rfl
theorem n161 : (pG L xs).2.1 161 = 2 := rfl
theorem c161 : (pG L xs).2.2.1 161 = 12 := rfl
theorem k161_1 : b161 (Int.toNat (.ofNat 1)) = b161_1 := rfl
theorem k161_2 : b161 (Int.toNat (.ofNat 2)) = b161_2 := rfl
theorem m162 : Call (pG L xs) pM (d + 1) 162 as h Q = ((xent as).length ≤ 6 ∧ Ev (pG L xs) pM d b162 (some FieldType.int) Q b162_0 (xentry as 6) [] h) := rfl
theorem n162 : (pG L xs).2.1 162 = 6 := rfl
theorem c162 : (pG L xs).2.2.1 162 = 12 := rfl
theorem k162_1 : b162 (Int.toNat (.ofNat 1)) = b162_1 := rfl
theorem m163 : Call (pG L xs) pM (d + 1) 163 as h Q = ((xent as).length ≤ 2 ∧ Ev (pG L xs) pM d b163 (some FieldType.int) Q b163_0 (xentry as 2) [] h) := rfl
theorem n163 : (pG L xs).2.1 163 = 2 := rfl
theorem c163 : (pG L xs).2.2.1 163 = 12 := rfl
theorem k163_1 : b163 (Int.toNat (.ofNat 1)) = b163_1 := rfl
theorem k163_2 : b163 (Int.toNat (.ofNat 2)) = b163_2 := rfl
theorem m164 : Call (pG L xs) pM (d + 1) 164 as h Q = ((xent as).length ≤ 3 ∧ Ev (pG L xs) pM d b164 (some FieldType.boolean) Q b164_0 (xentry as 3) [] h) := rfl
theorem n164 : (pG L xs).2.1 164 = 3 := rfl
theorem c164 : (pG L xs).2.2.1 164 = 12 := rfl
theorem k164_1 : b164 (Int.toNat (.ofNat 1)) = b164_1 := rfl
theorem k164_0 : b164 (Int.toNat (.ofNat 0)) = b164_0 := rfl
theorem m165 : Call (pG L xs) pM (d + 1) 165 as h Q = ((xent as).length ≤ 1 ∧ Ev (pG L xs) pM d b165 (some FieldType.int) Q b165_0 (xentry as 1) [] h) := rfl
theorem n165 : (pG L xs).2.1 165 = 1 := rfl
theorem c165 : (pG L xs).2.2.1 165 = 12 := rfl
theorem k165_1 : b165 (Int.toNat (.ofNat 1)) = b165_1 := rfl
theorem k165_2 : b165 (Int.toNat (.ofNat 2)) = b165_2 := rfl
theorem k165_3 : b165 (Int.toNat (.ofNat 3)) = b165_3 := rfl
theorem k165_0 : b165 (Int.toNat (.ofNat 0)) = b165_0 := rfl
theorem m166 : Call (pG L xs) pM (d + 1) 166 as h Q = ((xent as).length ≤ 2 ∧ Ev (pG L xs) pM d b166 (some FieldType.boolean) Q b166_0 (xentry as 2) [] h) := rfl
theorem n166 : (pG L xs).2.1 166 = 2 := rfl
theorem c166 : (pG L xs).2.2.1 166 = 12 := rfl
theorem k166_1 : b166 (Int.toNat (.ofNat 1)) = b166_1 := rfl
theorem k166_2 : b166 (Int.toNat (.ofNat 2)) = b166_2 := rfl
theorem k166_0 : b166 (Int.toNat (.ofNat 0)) = b166_0 := rfl
theorem m167 : Call (pG L xs) pM (d + 1) 167 as h Q = ((xent as).length ≤ 2 ∧ Ev (pG L xs) pM d b167 (some FieldType.boolean) Q b167_0 (xentry as 2) [] h) := rfl
theorem n167 : (pG L xs).2.1 167 = 2 := rfl
theorem c167 : (pG L xs).2.2.1 167 = 12 := rfl
theorem k167_1 : b167 (Int.toNat (.ofNat 1)) = b167_1 := rfl
theorem k167_2 : b167 (Int.toNat (.ofNat 2)) = b167_2 := rfl
theorem k167_0 : b167 (Int.toNat (.ofNat 0)) = b167_0 := rfl
theorem m168 : Call (pG L xs) pM (d + 1) 168 as h Q = ((xent as).length ≤ 6 ∧ Ev (pG L xs) pM d b168 (some FieldType.boolean) Q b168_0 (xentry as 6) [] h) := rfl
theorem n168 : (pG L xs).2.1 168 = 2 := rfl
theorem c168 : (pG L xs).2.2.1 168 = 12 := rfl
theorem k168_1 : b168 (Int.toNat (.ofNat 1)) = b168_1 := rfl
theorem k168_2 : b168 (Int.toNat (.ofNat 2)) = b168_2 := rfl
theorem k168_3 : b168 (Int.toNat (.ofNat 3)) = b168_3 := rfl
theorem k168_4 : b168 (Int.toNat (.ofNat 4)) = b168_4 := rfl
theorem k168_5 : b168 (Int.toNat (.ofNat 5)) = b168_5 := rfl
theorem k168_0 : b168 (Int.toNat (.ofNat 0)) = b168_0 := rfl
theorem m169 : Call (pG L xs) pM (d + 1) 169 as h Q = ((xent as).length ≤ 1 ∧ Ev (pG L xs) pM d b169 (none) Q b169_0 (xentry as 1) [] h) := rfl
theorem n169 : (pG L xs).2.1 169 = 1 := rfl
theorem c169 : (pG L xs).2.2.1 169 = 12 := rfl
theorem k169_1 : b169 (Int.toNat (.ofNat 1)) = b169_1 := rfl
theorem k169_0 : b169 (Int.toNat (.ofNat 0)) = b169_0 := rfl
theorem m170 : Call (pG L xs) pM (d + 1) 170 as h Q = ((xent as).length ≤ 3 ∧ Ev (pG L xs) pM d b170 (some FieldType.boolean) Q b170_0 (xentry as 3) [] h) := rfl
theorem n170 : (pG L xs).2.1 170 = 2 := rfl
theorem c170 : (pG L xs).2.2.1 170 = 12 := rfl
theorem k170_1 : b170 (Int.toNat (.ofNat 1)) = b170_1 := rfl
theorem k170_0 : b170 (Int.toNat (.ofNat 0)) = b170_0 := rfl
theorem m171 : Call (pG L xs) pM (d + 1) 171 as h Q = ((xent as).length ≤ 5 ∧ Ev (pG L xs) pM d b171 (some FieldType.boolean) Q b171_0 (xentry as 5) [] h) := rfl
theorem n171 : (pG L xs).2.1 171 = 3 := rfl
theorem c171 : (pG L xs).2.2.1 171 = 12 := rfl
theorem k171_1 : b171 (Int.toNat (.ofNat 1)) = b171_1 := rfl
theorem k171_2 : b171 (Int.toNat (.ofNat 2)) = b171_2 := rfl
theorem k171_3 : b171 (Int.toNat (.ofNat 3)) = b171_3 := rfl
theorem k171_4 : b171 (Int.toNat (.ofNat 4)) = b171_4 := rfl
theorem k171_5 : b171 (Int.toNat (.ofNat 5)) = b171_5 := rfl
theorem k171_6 : b171 (Int.toNat (.ofNat 6)) = b171_6 := rfl
theorem k171_7 : b171 (Int.toNat (.ofNat 7)) = b171_7 := rfl
theorem k171_8 : b171 (Int.toNat (.ofNat 8)) = b171_8 := rfl
theorem k171_0 : b171 (Int.toNat (.ofNat 0)) = b171_0 := rfl
theorem m172 : Call (pG L xs) pM (d + 1) 172 as h Q = ((xent as).length ≤ 1 ∧ Ev (pG L xs) pM d b172 (some FieldType.int) Q b172_0 (xentry as 1) [] h) := rfl
theorem n172 : (pG L xs).2.1 172 = 1 := rfl
theorem c172 : (pG L xs).2.2.1 172 = 12 := rfl
theorem k172_1 : b172 (Int.toNat (.ofNat 1)) = b172_1 := rfl
theorem k172_2 : b172 (Int.toNat (.ofNat 2)) = b172_2 := rfl
theorem k172_3 : b172 (Int.toNat (.ofNat 3)) = b172_3 := rfl
theorem k172_4 : b172 (Int.toNat (.ofNat 4)) = b172_4 := rfl
theorem k172_5 : b172 (Int.toNat (.ofNat 5)) = b172_5 := rfl
theorem k172_6 : b172 (Int.toNat (.ofNat 6)) = b172_6 := rfl
theorem k172_7 : b172 (Int.toNat (.ofNat 7)) = b172_7 := rfl
theorem k172_8 : b172 (Int.toNat (.ofNat 8)) = b172_8 := rfl
theorem k172_9 : b172 (Int.toNat (.ofNat 9)) = b172_9 := rfl
theorem k172_10 : b172 (Int.toNat (.ofNat 10)) = b172_10 := rfl
theorem k172_11 : b172 (Int.toNat (.ofNat 11)) = b172_11 := rfl
theorem k172_12 : b172 (Int.toNat (.ofNat 12)) = b172_12 := rfl
theorem k172_13 : b172 (Int.toNat (.ofNat 13)) = b172_13 := rfl
theorem k172_0 : b172 (Int.toNat (.ofNat 0)) = b172_0 := rfl
theorem m173 : Call (pG L xs) pM (d + 1) 173 as h Q = ((xent as).length ≤ 3 ∧ Ev (pG L xs) pM d b173 (none) Q b173_0 (xentry as 3) [] h) := rfl
theorem n173 : (pG L xs).2.1 173 = 3 := rfl
theorem c173 : (pG L xs).2.2.1 173 = 12 := rfl
theorem m174 : Call (pG L xs) pM (d + 1) 174 as h Q = ((xent as).length ≤ 2 ∧ Ev (pG L xs) pM d b174 (some FieldType.boolean) Q b174_0 (xentry as 2) [] h) := rfl
theorem n174 : (pG L xs).2.1 174 = 2 := rfl
theorem c174 : (pG L xs).2.2.1 174 = 12 := rfl
theorem k174_1 : b174 (Int.toNat (.ofNat 1)) = b174_1 := rfl
theorem m175 : Call (pG L xs) pM (d + 1) 175 as h Q = ((xent as).length ≤ 2 ∧ Ev (pG L xs) pM d b175 (some FieldType.boolean) Q b175_0 (xentry as 2) [] h) := rfl
theorem n175 : (pG L xs).2.1 175 = 2 := rfl
theorem c175 : (pG L xs).2.2.1 175 = 12 := rfl
theorem k175_1 : b175 (Int.toNat (.ofNat 1)) = b175_1 := rfl
theorem m176 : Call (pG L xs) pM (d + 1) 176 as h Q = ((xent as).length ≤ 1 ∧ Ev (pG L xs) pM d b176 (some FieldType.int) Q b176_0 (xentry as 1) [] h) := rfl
theorem n176 : (pG L xs).2.1 176 = 1 := rfl
theorem k176_1 : b176 (Int.toNat (.ofNat 1)) = b176_1 := rfl
theorem k176_2 : b176 (Int.toNat (.ofNat 2)) = b176_2 := rfl
theorem k176_3 : b176 (Int.toNat (.ofNat 3)) = b176_3 := rfl
theorem k176_4 : b176 (Int.toNat (.ofNat 4)) = b176_4 := rfl
theorem k176_0 : b176 (Int.toNat (.ofNat 0)) = b176_0 := rfl
theorem m177 : Call (pG L xs) pM (d + 1) 177 as h Q = ((xent as).length ≤ 2 ∧ Ev (pG L xs) pM d b177 (none) Q b177_0 (xentry as 2) [] h) := rfl
theorem n177 : (pG L xs).2.1 177 = 2 := rfl
theorem c177 : (pG L xs).2.2.1 177 = 12 := rfl
theorem k177_1 : b177 (Int.toNat (.ofNat 1)) = b177_1 := rfl
theorem k177_0 : b177 (Int.toNat (.ofNat 0)) = b177_0 := rfl
theorem m178 : Call (pG L xs) pM (d + 1) 178 as h Q = ((xent as).length ≤ 3 ∧ Ev (pG L xs) pM d b178 (some FieldType.boolean) Q b178_0 (xentry as 3) [] h) := rfl
theorem n178 : (pG L xs).2.1 178 = 1 := rfl
theorem c178 : (pG L xs).2.2.1 178 = 12 := rfl
theorem k178_1 : b178 (Int.toNat (.ofNat 1)) = b178_1 := rfl
theorem k178_2 : b178 (Int.toNat (.ofNat 2)) = b178_2 := rfl
theorem k178_3 : b178 (Int.toNat (.ofNat 3)) = b178_3 := rfl
theorem k178_4 : b178 (Int.toNat (.ofNat 4)) = b178_4 := rfl
theorem k178_5 : b178 (Int.toNat (.ofNat 5)) = b178_5 := rfl
theorem k178_0 : b178 (Int.toNat (.ofNat 0)) = b178_0 := rfl
theorem m179 : Call (pG L xs) pM (d + 1) 179 as h Q = ((xent as).length ≤ 2 ∧ Ev (pG L xs) pM d b179 (some FieldType.boolean) Q b179_0 (xentry as 2) [] h) := rfl
theorem n179 : (pG L xs).2.1 179 = 1 := rfl
theorem c179 : (pG L xs).2.2.1 179 = 12 := rfl
theorem k179_1 : b179 (Int.toNat (.ofNat 1)) = b179_1 := rfl
theorem k179_2 : b179 (Int.toNat (.ofNat 2)) = b179_2 := rfl
theorem k179_3 : b179 (Int.toNat (.ofNat 3)) = b179_3 := rfl
theorem k179_4 : b179 (Int.toNat (.ofNat 4)) = b179_4 := rfl
theorem k179_5 : b179 (Int.toNat (.ofNat 5)) = b179_5 := rfl
theorem k179_6 : b179 (Int.toNat (.ofNat 6)) = b179_6 := rfl
theorem k179_7 : b179 (Int.toNat (.ofNat 7)) = b179_7 := rfl
theorem k179_0 : b179 (Int.toNat (.ofNat 0)) = b179_0 := rfl
theorem m180 : Call (pG L xs) pM (d + 1) 180 as h Q = ((xent as).length ≤ 2 ∧ Ev (pG L xs) pM d b180 (some FieldType.boolean) Q b180_0 (xentry as 2) [] h) := rfl
theorem n180 : (pG L xs).2.1 180 = 1 := rfl
theorem c180 : (pG L xs).2.2.1 180 = 12 := rfl
theorem k180_1 : b180 (Int.toNat (.ofNat 1)) = b180_1 := rfl
theorem k180_2 : b180 (Int.toNat (.ofNat 2)) = b180_2 := rfl
theorem k180_3 : b180 (Int.toNat (.ofNat 3)) = b180_3 := rfl
theorem k180_4 : b180 (Int.toNat (.ofNat 4)) = b180_4 := rfl
theorem k180_5 : b180 (Int.toNat (.ofNat 5)) = b180_5 := rfl
theorem k180_6 : b180 (Int.toNat (.ofNat 6)) = b180_6 := rfl
theorem k180_0 : b180 (Int.toNat (.ofNat 0)) = b180_0 := rfl
theorem m181 : Call (pG L xs) pM (d + 1) 181 as h Q = ((xent as).length ≤ 5 ∧ Ev (pG L xs) pM d b181 (some FieldType.boolean) Q b181_0 (xentry as 5) [] h) := rfl
theorem n181 : (pG L xs).2.1 181 = 1 := rfl
theorem c181 : (pG L xs).2.2.1 181 = 12 := rfl
theorem k181_1 : b181 (Int.toNat (.ofNat 1)) = b181_1 := rfl
theorem k181_2 : b181 (Int.toNat (.ofNat 2)) = b181_2 := rfl
theorem k181_3 : b181 (Int.toNat (.ofNat 3)) = b181_3 := rfl
theorem k181_4 : b181 (Int.toNat (.ofNat 4)) = b181_4 := rfl
theorem k181_5 : b181 (Int.toNat (.ofNat 5)) = b181_5 := rfl
theorem k181_6 : b181 (Int.toNat (.ofNat 6)) = b181_6 := rfl
theorem k181_7 : b181 (Int.toNat (.ofNat 7)) = b181_7 := rfl
theorem k181_8 : b181 (Int.toNat (.ofNat 8)) = b181_8 := rfl
theorem k181_9 : b181 (Int.toNat (.ofNat 9)) = b181_9 := rfl
theorem k181_10 : b181 (Int.toNat (.ofNat 10)) = b181_10 := rfl
theorem k181_11 : b181 (Int.toNat (.ofNat 11)) = b181_11 := rfl
theorem k181_12 : b181 (Int.toNat (.ofNat 12)) = b181_12 := rfl
theorem k181_0 : b181 (Int.toNat (.ofNat 0)) = b181_0 := rfl
theorem m182 : Call (pG L xs) pM (d + 1) 182 as h Q = ((xent as).length ≤ 3 ∧ Ev (pG L xs) pM d b182 (some FieldType.boolean) Q b182_0 (xentry as 3) [] h) := rfl
theorem n182 : (pG L xs).2.1 182 = 1 := rfl
theorem c182 : (pG L xs).2.2.1 182 = 12 := rfl
theorem k182_1 : b182 (Int.toNat (.ofNat 1)) = b182_1 := rfl
theorem k182_2 : b182 (Int.toNat (.ofNat 2)) = b182_2 := rfl
theorem k182_3 : b182 (Int.toNat (.ofNat 3)) = b182_3 := rfl
theorem k182_4 : b182 (Int.toNat (.ofNat 4)) = b182_4 := rfl
theorem k182_5 : b182 (Int.toNat (.ofNat 5)) = b182_5 := rfl
theorem k182_6 : b182 (Int.toNat (.ofNat 6)) = b182_6 := rfl
theorem k182_0 : b182 (Int.toNat (.ofNat 0)) = b182_0 := rfl
theorem m183 : Call (pG L xs) pM (d + 1) 183 as h Q = ((xent as).length ≤ 2 ∧ Ev (pG L xs) pM d b183 (some FieldType.boolean) Q b183_0 (xentry as 2) [] h) := rfl
theorem n183 : (pG L xs).2.1 183 = 1 := rfl
theorem c183 : (pG L xs).2.2.1 183 = 12 := rfl
theorem k183_1 : b183 (Int.toNat (.ofNat 1)) = b183_1 := rfl
theorem k183_2 : b183 (Int.toNat (.ofNat 2)) = b183_2 := rfl
theorem k183_3 : b183 (Int.toNat (.ofNat 3)) = b183_3 := rfl
theorem k183_0 : b183 (Int.toNat (.ofNat 0)) = b183_0 := rfl
theorem m184 : Call (pG L xs) pM (d + 1) 184 as h Q = ((xent as).length ≤ 1 ∧ Ev (pG L xs) pM d b184 (none) Q b184_0 (xentry as 1) [] h) := rfl
theorem n184 : (pG L xs).2.1 184 = 1 := rfl
theorem c184 : (pG L xs).2.2.1 184 = 12 := rfl
theorem k184_1 : b184 (Int.toNat (.ofNat 1)) = b184_1 := rfl
theorem k184_2 : b184 (Int.toNat (.ofNat 2)) = b184_2 := rfl
theorem m185 : Call (pG L xs) pM (d + 1) 185 as h Q = ((xent as).length ≤ 3 ∧ Ev (pG L xs) pM d b185 (some FieldType.boolean) Q b185_0 (xentry as 3) [] h) := rfl
theorem n185 : (pG L xs).2.1 185 = 1 := rfl
theorem c185 : (pG L xs).2.2.1 185 = 12 := rfl
theorem k185_1 : b185 (Int.toNat (.ofNat 1)) = b185_1 := rfl
theorem k185_2 : b185 (Int.toNat (.ofNat 2)) = b185_2 := rfl
theorem k185_3 : b185 (Int.toNat (.ofNat 3)) = b185_3 := rfl
theorem k185_4 : b185 (Int.toNat (.ofNat 4)) = b185_4 := rfl
theorem k185_5 : b185 (Int.toNat (.ofNat 5)) = b185_5 := rfl
theorem k185_6 : b185 (Int.toNat (.ofNat 6)) = b185_6 := rfl
theorem k185_7 : b185 (Int.toNat (.ofNat 7)) = b185_7 := rfl
theorem k185_8 : b185 (Int.toNat (.ofNat 8)) = b185_8 := rfl
theorem k185_9 : b185 (Int.toNat (.ofNat 9)) = b185_9 := rfl
theorem k185_0 : b185 (Int.toNat (.ofNat 0)) = b185_0 := rfl
theorem m186 : Call (pG L xs) pM (d + 1) 186 as h Q = ((xent as).length ≤ 2 ∧ Ev (pG L xs) pM d b186 (some FieldType.boolean) Q b186_0 (xentry as 2) [] h) := rfl
theorem n186 : (pG L xs).2.1 186 = 1 := rfl
theorem c186 : (pG L xs).2.2.1 186 = 12 := rfl
theorem k186_1 : b186 (Int.toNat (.ofNat 1)) = b186_1 := rfl
theorem k186_2 : b186 (Int.toNat (.ofNat 2)) = b186_2 := rfl
theorem k186_0 : b186 (Int.toNat (.ofNat 0)) = b186_0 := rfl
theorem m187 : Call (pG L xs) pM (d + 1) 187 as h Q = ((xent as).length ≤ 4 ∧ Ev (pG L xs) pM d b187 (some FieldType.boolean) Q b187_0 (xentry as 4) [] h) := rfl
theorem n187 : (pG L xs).2.1 187 = 4 := rfl
theorem c187 : (pG L xs).2.2.1 187 = 12 := rfl
theorem k187_1 : b187 (Int.toNat (.ofNat 1)) = b187_1 := rfl
theorem k187_0 : b187 (Int.toNat (.ofNat 0)) = b187_0 := rfl
theorem m188 : Call (pG L xs) pM (d + 1) 188 as h Q = ((xent as).length ≤ 3 ∧ Ev (pG L xs) pM d b188 (some FieldType.boolean) Q b188_0 (xentry as 3) [] h) := rfl
theorem n188 : (pG L xs).2.1 188 = 2 := rfl
theorem c188 : (pG L xs).2.2.1 188 = 12 := rfl
theorem k188_1 : b188 (Int.toNat (.ofNat 1)) = b188_1 := rfl
theorem k188_2 : b188 (Int.toNat (.ofNat 2)) = b188_2 := rfl
theorem k188_3 : b188 (Int.toNat (.ofNat 3)) = b188_3 := rfl
theorem k188_4 : b188 (Int.toNat (.ofNat 4)) = b188_4 := rfl
theorem k188_5 : b188 (Int.toNat (.ofNat 5)) = b188_5 := rfl
theorem k188_0 : b188 (Int.toNat (.ofNat 0)) = b188_0 := rfl
theorem m189 : Call (pG L xs) pM (d + 1) 189 as h Q = ((xent as).length ≤ 3 ∧ Ev (pG L xs) pM d b189 (some FieldType.boolean) Q b189_0 (xentry as 3) [] h) := rfl
theorem n189 : (pG L xs).2.1 189 = 2 := rfl
theorem c189 : (pG L xs).2.2.1 189 = 12 := rfl
theorem k189_1 : b189 (Int.toNat (.ofNat 1)) = b189_1 := rfl
theorem k189_2 : b189 (Int.toNat (.ofNat 2)) = b189_2 := rfl
theorem k189_3 : b189 (Int.toNat (.ofNat 3)) = b189_3 := rfl
theorem k189_0 : b189 (Int.toNat (.ofNat 0)) = b189_0 := rfl
theorem m190 : Call (pG L xs) pM (d + 1) 190 as h Q = ((xent as).length ≤ 2 ∧ Ev (pG L xs) pM d b190 (some FieldType.boolean) Q b190_0 (xentry as 2) [] h) := rfl
theorem n190 : (pG L xs).2.1 190 = 1 := rfl
theorem c190 : (pG L xs).2.2.1 190 = 12 := rfl
theorem k190_1 : b190 (Int.toNat (.ofNat 1)) = b190_1 := rfl
theorem k190_2 : b190 (Int.toNat (.ofNat 2)) = b190_2 := rfl
theorem k190_0 : b190 (Int.toNat (.ofNat 0)) = b190_0 := rfl
theorem m191 : Call (pG L xs) pM (d + 1) 191 as h Q = ((xent as).length ≤ 2 ∧ Ev (pG L xs) pM d b191 (some FieldType.boolean) Q b191_0 (xentry as 2) [] h) := rfl
theorem n191 : (pG L xs).2.1 191 = 2 := rfl
theorem c191 : (pG L xs).2.2.1 191 = 12 := rfl
theorem k191_1 : b191 (Int.toNat (.ofNat 1)) = b191_1 := rfl
theorem k191_2 : b191 (Int.toNat (.ofNat 2)) = b191_2 := rfl
theorem k191_3 : b191 (Int.toNat (.ofNat 3)) = b191_3 := rfl
theorem k191_4 : b191 (Int.toNat (.ofNat 4)) = b191_4 := rfl
theorem k191_0 : b191 (Int.toNat (.ofNat 0)) = b191_0 := rfl
theorem m192 : Call (pG L xs) pM (d + 1) 192 as h Q = ((xent as).length ≤ 1 ∧ Ev (pG L xs) pM d b192 (some FieldType.boolean) Q b192_0 (xentry as 1) [] h) := rfl
theorem n192 : (pG L xs).2.1 192 = 1 := rfl
theorem c192 : (pG L xs).2.2.1 192 = 12 := rfl
theorem k192_1 : b192 (Int.toNat (.ofNat 1)) = b192_1 := rfl
theorem k192_2 : b192 (Int.toNat (.ofNat 2)) = b192_2 := rfl
theorem k192_3 : b192 (Int.toNat (.ofNat 3)) = b192_3 := rfl
theorem k192_0 : b192 (Int.toNat (.ofNat 0)) = b192_0 := rfl
theorem m193 : Call (pG L xs) pM (d + 1) 193 as h Q = ((xent as).length ≤ 3 ∧ Ev (pG L xs) pM d b193 (some FieldType.boolean) Q b193_0 (xentry as 3) [] h) := rfl
theorem n193 : (pG L xs).2.1 193 = 1 := rfl
theorem c193 : (pG L xs).2.2.1 193 = 12 := rfl
theorem k193_1 : b193 (Int.toNat (.ofNat 1)) = b193_1 := rfl
theorem k193_2 : b193 (Int.toNat (.ofNat 2)) = b193_2 := rfl
theorem k193_3 : b193 (Int.toNat (.ofNat 3)) = b193_3 := rfl
theorem k193_4 : b193 (Int.toNat (.ofNat 4)) = b193_4 := rfl
theorem k193_5 : b193 (Int.toNat (.ofNat 5)) = b193_5 := rfl
theorem k193_6 : b193 (Int.toNat (.ofNat 6)) = b193_6 := rfl
theorem k193_7 : b193 (Int.toNat (.ofNat 7)) = b193_7 := rfl
theorem k193_8 : b193 (Int.toNat (.ofNat 8)) = b193_8 := rfl
theorem k193_9 : b193 (Int.toNat (.ofNat 9)) = b193_9 := rfl
theorem k193_10 : b193 (Int.toNat (.ofNat 10)) = b193_10 := rfl
theorem k193_0 : b193 (Int.toNat (.ofNat 0)) = b193_0 := rfl
theorem m194 : Call (pG L xs) pM (d + 1) 194 as h Q = ((xent as).length ≤ 2 ∧ Ev (pG L xs) pM d b194 (some FieldType.boolean) Q b194_0 (xentry as 2) [] h) := rfl
theorem n194 : (pG L xs).2.1 194 = 1 := rfl
theorem c194 : (pG L xs).2.2.1 194 = 12 := rfl
theorem k194_1 : b194 (Int.toNat (.ofNat 1)) = b194_1 := rfl
theorem k194_2 : b194 (Int.toNat (.ofNat 2)) = b194_2 := rfl
theorem k194_3 : b194 (Int.toNat (.ofNat 3)) = b194_3 := rfl
theorem k194_4 : b194 (Int.toNat (.ofNat 4)) = b194_4 := rfl
theorem k194_5 : b194 (Int.toNat (.ofNat 5)) = b194_5 := rfl
theorem k194_0 : b194 (Int.toNat (.ofNat 0)) = b194_0 := rfl
theorem m195 : Call (pG L xs) pM (d + 1) 195 as h Q = ((xent as).length ≤ 1 ∧ Ev (pG L xs) pM d b195 (some FieldType.int) Q b195_0 (xentry as 1) [] h) := rfl
theorem n195 : (pG L xs).2.1 195 = 1 := rfl
theorem c195 : (pG L xs).2.2.1 195 = 12 := rfl
theorem k195_1 : b195 (Int.toNat (.ofNat 1)) = b195_1 := rfl
theorem k195_2 : b195 (Int.toNat (.ofNat 2)) = b195_2 := rfl
theorem k195_0 : b195 (Int.toNat (.ofNat 0)) = b195_0 := rfl
theorem m196 : Call (pG L xs) pM (d + 1) 196 as h Q = ((xent as).length ≤ 2 ∧ Ev (pG L xs) pM d b196 (some FieldType.int) Q b196_0 (xentry as 2) [] h) := rfl
theorem n196 : (pG L xs).2.1 196 = 1 := rfl
theorem c196 : (pG L xs).2.2.1 196 = 12 := rfl
theorem k196_1 : b196 (Int.toNat (.ofNat 1)) = b196_1 := rfl
theorem k196_2 : b196 (Int.toNat (.ofNat 2)) = b196_2 := rfl
theorem k196_3 : b196 (Int.toNat (.ofNat 3)) = b196_3 := rfl
theorem k196_4 : b196 (Int.toNat (.ofNat 4)) = b196_4 := rfl
theorem k196_5 : b196 (Int.toNat (.ofNat 5)) = b196_5 := rfl
theorem k196_6 : b196 (Int.toNat (.ofNat 6)) = b196_6 := rfl
theorem k196_7 : b196 (Int.toNat (.ofNat 7)) = b196_7 := rfl
theorem k196_0 : b196 (Int.toNat (.ofNat 0)) = b196_0 := rfl
theorem m197 : Call (pG L xs) pM (d + 1) 197 as h Q = ((xent as).length ≤ 2 ∧ Ev (pG L xs) pM d b197 (some FieldType.boolean) Q b197_0 (xentry as 2) [] h) := rfl
theorem n197 : (pG L xs).2.1 197 = 2 := rfl
theorem c197 : (pG L xs).2.2.1 197 = 12 := rfl
theorem k197_1 : b197 (Int.toNat (.ofNat 1)) = b197_1 := rfl
theorem k197_2 : b197 (Int.toNat (.ofNat 2)) = b197_2 := rfl
theorem k197_0 : b197 (Int.toNat (.ofNat 0)) = b197_0 := rfl
theorem m198 : Call (pG L xs) pM (d + 1) 198 as h Q = ((xent as).length ≤ 3 ∧ Ev (pG L xs) pM d b198 (none) Q b198_0 (xentry as 3) [] h) := rfl
theorem n198 : (pG L xs).2.1 198 = 2 := rfl
theorem c198 : (pG L xs).2.2.1 198 = 12 := rfl
theorem m199 : Call (pG L xs) pM (d + 1) 199 as h Q = ((xent as).length ≤ 1 ∧ Ev (pG L xs) pM d b199 (some FieldType.long) Q b199_0 (xentry as 1) [] h) := rfl
theorem n199 : (pG L xs).2.1 199 = 1 := rfl
theorem c199 : (pG L xs).2.2.1 199 = 12 := rfl
theorem m200 : Call (pG L xs) pM (d + 1) 200 as h Q = ((xent as).length ≤ 5 ∧ Ev (pG L xs) pM d b200 (some FieldType.long) Q b200_0 (xentry as 5) [] h) := rfl
theorem n200 : (pG L xs).2.1 200 = 3 := rfl
theorem k200_1 : b200 (Int.toNat (.ofNat 1)) = b200_1 := rfl
theorem k200_2 : b200 (Int.toNat (.ofNat 2)) = b200_2 := rfl
theorem k200_3 : b200 (Int.toNat (.ofNat 3)) = b200_3 := rfl
theorem k200_4 : b200 (Int.toNat (.ofNat 4)) = b200_4 := rfl
theorem k200_5 : b200 (Int.toNat (.ofNat 5)) = b200_5 := rfl
theorem k200_6 : b200 (Int.toNat (.ofNat 6)) = b200_6 := rfl
theorem k200_7 : b200 (Int.toNat (.ofNat 7)) = b200_7 := rfl
theorem k200_8 : b200 (Int.toNat (.ofNat 8)) = b200_8 := rfl
theorem k200_9 : b200 (Int.toNat (.ofNat 9)) = b200_9 := rfl
theorem k200_10 : b200 (Int.toNat (.ofNat 10)) = b200_10 := rfl
theorem k200_11 : b200 (Int.toNat (.ofNat 11)) = b200_11 := rfl
theorem k200_12 : b200 (Int.toNat (.ofNat 12)) = b200_12 := rfl
theorem k200_13 : b200 (Int.toNat (.ofNat 13)) = b200_13 := rfl
theorem k200_14 : b200 (Int.toNat (.ofNat 14)) = b200_14 := rfl
theorem k200_15 : b200 (Int.toNat (.ofNat 15)) = b200_15 := rfl
theorem k200_16 : b200 (Int.toNat (.ofNat 16)) = b200_16 := rfl
theorem k200_17 : b200 (Int.toNat (.ofNat 17)) = b200_17 := rfl
theorem k200_18 : b200 (Int.toNat (.ofNat 18)) = b200_18 := rfl
theorem k200_19 : b200 (Int.toNat (.ofNat 19)) = b200_19 := rfl
theorem k200_20 : b200 (Int.toNat (.ofNat 20)) = b200_20 := rfl
theorem k200_21 : b200 (Int.toNat (.ofNat 21)) = b200_21 := rfl
theorem k200_22 : b200 (Int.toNat (.ofNat 22)) = b200_22 := rfl
theorem k200_23 : b200 (Int.toNat (.ofNat 23)) = b200_23 := rfl
theorem k200_24 : b200 (Int.toNat (.ofNat 24)) = b200_24 := rfl
theorem k200_25 : b200 (Int.toNat (.ofNat 25)) = b200_25 := rfl
theorem k200_26 : b200 (Int.toNat (.ofNat 26)) = b200_26 := rfl
theorem k200_0 : b200 (Int.toNat (.ofNat 0)) = b200_0 := rfl
theorem m201 : Call (pG L xs) pM (d + 1) 201 as h Q = ((xent as).length ≤ 11 ∧ Ev (pG L xs) pM d b201 (some FieldType.long) Q b201_0 (xentry as 11) [] h) := rfl
theorem n201 : (pG L xs).2.1 201 = 4 := rfl
theorem c201 : (pG L xs).2.2.1 201 = 12 := rfl
theorem k201_1 : b201 (Int.toNat (.ofNat 1)) = b201_1 := rfl
theorem k201_2 : b201 (Int.toNat (.ofNat 2)) = b201_2 := rfl
theorem k201_3 : b201 (Int.toNat (.ofNat 3)) = b201_3 := rfl
theorem k201_4 : b201 (Int.toNat (.ofNat 4)) = b201_4 := rfl
theorem k201_5 : b201 (Int.toNat (.ofNat 5)) = b201_5 := rfl
theorem k201_6 : b201 (Int.toNat (.ofNat 6)) = b201_6 := rfl
theorem k201_0 : b201 (Int.toNat (.ofNat 0)) = b201_0 := rfl
theorem m202 : Call (pG L xs) pM (d + 1) 202 as h Q = ((xent as).length ≤ 1 ∧ Ev (pG L xs) pM d b202 (some FieldType.boolean) Q b202_0 (xentry as 1) [] h) := rfl
theorem n202 : (pG L xs).2.1 202 = 1 := rfl
theorem c202 : (pG L xs).2.2.1 202 = 12 := rfl
theorem k202_1 : b202 (Int.toNat (.ofNat 1)) = b202_1 := rfl
theorem k202_2 : b202 (Int.toNat (.ofNat 2)) = b202_2 := rfl
theorem k202_0 : b202 (Int.toNat (.ofNat 0)) = b202_0 := rfl
theorem m203 : Call (pG L xs) pM (d + 1) 203 as h Q = ((xent as).length ≤ 2 ∧ Ev (pG L xs) pM d b203 (some FieldType.boolean) Q b203_0 (xentry as 2) [] h) := rfl
theorem n203 : (pG L xs).2.1 203 = 2 := rfl
theorem c203 : (pG L xs).2.2.1 203 = 12 := rfl
theorem k203_1 : b203 (Int.toNat (.ofNat 1)) = b203_1 := rfl
theorem k203_2 : b203 (Int.toNat (.ofNat 2)) = b203_2 := rfl
theorem k203_0 : b203 (Int.toNat (.ofNat 0)) = b203_0 := rfl
theorem m204 : Call (pG L xs) pM (d + 1) 204 as h Q = ((xent as).length ≤ 2 ∧ Ev (pG L xs) pM d b204 (some FieldType.int) Q b204_0 (xentry as 2) [] h) := rfl
theorem n204 : (pG L xs).2.1 204 = 2 := rfl
theorem c204 : (pG L xs).2.2.1 204 = 12 := rfl
theorem m205 : Call (pG L xs) pM (d + 1) 205 as h Q = ((xent as).length ≤ 2 ∧ Ev (pG L xs) pM d b205 (some FieldType.boolean) Q b205_0 (xentry as 2) [] h) := rfl
theorem n205 : (pG L xs).2.1 205 = 2 := rfl
theorem c205 : (pG L xs).2.2.1 205 = 12 := rfl
theorem k205_1 : b205 (Int.toNat (.ofNat 1)) = b205_1 := rfl
theorem k205_2 : b205 (Int.toNat (.ofNat 2)) = b205_2 := rfl
theorem k205_0 : b205 (Int.toNat (.ofNat 0)) = b205_0 := rfl
theorem m206 : Call (pG L xs) pM (d + 1) 206 as h Q = ((xent as).length ≤ 3 ∧ Ev (pG L xs) pM d b206 (some FieldType.int) Q b206_0 (xentry as 3) [] h) := rfl
theorem n206 : (pG L xs).2.1 206 = 3 := rfl
theorem c206 : (pG L xs).2.2.1 206 = 12 := rfl
theorem m207 : Call (pG L xs) pM (d + 1) 207 as h Q = ((xent as).length ≤ 4 ∧ Ev (pG L xs) pM d b207 (some FieldType.int) Q b207_0 (xentry as 4) [] h) := rfl
theorem n207 : (pG L xs).2.1 207 = 3 := rfl
theorem c207 : (pG L xs).2.2.1 207 = 12 := rfl
theorem k207_1 : b207 (Int.toNat (.ofNat 1)) = b207_1 := rfl
theorem k207_2 : b207 (Int.toNat (.ofNat 2)) = b207_2 := rfl
theorem k207_3 : b207 (Int.toNat (.ofNat 3)) = b207_3 := rfl
theorem k207_0 : b207 (Int.toNat (.ofNat 0)) = b207_0 := rfl
theorem m208 : Call (pG L xs) pM (d + 1) 208 as h Q = ((xent as).length ≤ 3 ∧ Ev (pG L xs) pM d b208 (some FieldType.boolean) Q b208_0 (xentry as 3) [] h) := rfl
theorem n208 : (pG L xs).2.1 208 = 3 := rfl
theorem c208 : (pG L xs).2.2.1 208 = 12 := rfl
theorem k208_1 : b208 (Int.toNat (.ofNat 1)) = b208_1 := rfl
theorem k208_2 : b208 (Int.toNat (.ofNat 2)) = b208_2 := rfl
theorem k208_0 : b208 (Int.toNat (.ofNat 0)) = b208_0 := rfl
theorem m209 : Call (pG L xs) pM (d + 1) 209 as h Q = ((xent as).length ≤ 3 ∧ Ev (pG L xs) pM d b209 (some FieldType.boolean) Q b209_0 (xentry as 3) [] h) := rfl
theorem n209 : (pG L xs).2.1 209 = 3 := rfl
theorem c209 : (pG L xs).2.2.1 209 = 12 := rfl
theorem k209_1 : b209 (Int.toNat (.ofNat 1)) = b209_1 := rfl
theorem k209_2 : b209 (Int.toNat (.ofNat 2)) = b209_2 := rfl
theorem k209_3 : b209 (Int.toNat (.ofNat 3)) = b209_3 := rfl
theorem k209_0 : b209 (Int.toNat (.ofNat 0)) = b209_0 := rfl
theorem m210 : Call (pG L xs) pM (d + 1) 210 as h Q = ((xent as).length ≤ 1 ∧ Ev (pG L xs) pM d b210 (some FieldType.int) Q b210_0 (xentry as 1) [] h) := rfl
theorem n210 : (pG L xs).2.1 210 = 1 := rfl
theorem c210 : (pG L xs).2.2.1 210 = 12 := rfl
theorem m211 : Call (pG L xs) pM (d + 1) 211 as h Q = ((xent as).length ≤ 4 ∧ Ev (pG L xs) pM d b211 (some FieldType.int) Q b211_0 (xentry as 4) [] h) := rfl
theorem n211 : (pG L xs).2.1 211 = 2 := rfl
theorem c211 : (pG L xs).2.2.1 211 = 12 := rfl
theorem k211_1 : b211 (Int.toNat (.ofNat 1)) = b211_1 := rfl
theorem k211_2 : b211 (Int.toNat (.ofNat 2)) = b211_2 := rfl
theorem k211_3 : b211 (Int.toNat (.ofNat 3)) = b211_3 := rfl
theorem k211_4 : b211 (Int.toNat (.ofNat 4)) = b211_4 := rfl
theorem k211_0 : b211 (Int.toNat (.ofNat 0)) = b211_0 := rfl
theorem m212 : Call (pG L xs) pM (d + 1) 212 as h Q = ((xent as).length ≤ 2 ∧ Ev (pG L xs) pM d b212 (none) Q b212_0 (xentry as 2) [] h) := rfl
theorem n212 : (pG L xs).2.1 212 = 1 := rfl
theorem c212 : (pG L xs).2.2.1 212 = 12 := rfl
theorem k212_1 : b212 (Int.toNat (.ofNat 1)) = b212_1 := rfl
theorem k212_2 : b212 (Int.toNat (.ofNat 2)) = b212_2 := rfl
theorem k212_3 : b212 (Int.toNat (.ofNat 3)) = b212_3 := rfl
theorem k212_4 : b212 (Int.toNat (.ofNat 4)) = b212_4 := rfl
theorem k212_0 : b212 (Int.toNat (.ofNat 0)) = b212_0 := rfl
theorem m213 : Call (pG L xs) pM (d + 1) 213 as h Q = ((xent as).length ≤ 3 ∧ Ev (pG L xs) pM d b213 (some FieldType.int) Q b213_0 (xentry as 3) [] h) := rfl
theorem n213 : (pG L xs).2.1 213 = 2 := rfl
theorem c213 : (pG L xs).2.2.1 213 = 12 := rfl
theorem k213_1 : b213 (Int.toNat (.ofNat 1)) = b213_1 := rfl
theorem m214 : Call (pG L xs) pM (d + 1) 214 as h Q = ((xent as).length ≤ 3 ∧ Ev (pG L xs) pM d b214 (some FieldType.int) Q b214_0 (xentry as 3) [] h) := rfl
theorem n214 : (pG L xs).2.1 214 = 3 := rfl
theorem c214 : (pG L xs).2.2.1 214 = 12 := rfl
theorem k214_1 : b214 (Int.toNat (.ofNat 1)) = b214_1 := rfl
theorem k214_2 : b214 (Int.toNat (.ofNat 2)) = b214_2 := rfl
theorem k214_3 : b214 (Int.toNat (.ofNat 3)) = b214_3 := rfl
theorem k214_4 : b214 (Int.toNat (.ofNat 4)) = b214_4 := rfl
theorem k214_5 : b214 (Int.toNat (.ofNat 5)) = b214_5 := rfl
theorem k214_6 : b214 (Int.toNat (.ofNat 6)) = b214_6 := rfl
theorem k214_0 : b214 (Int.toNat (.ofNat 0)) = b214_0 := rfl
theorem m215 : Call (pG L xs) pM (d + 1) 215 as h Q = ((xent as).length ≤ 3 ∧ Ev (pG L xs) pM d b215 (some FieldType.int) Q b215_0 (xentry as 3) [] h) := rfl
theorem n215 : (pG L xs).2.1 215 = 3 := rfl
theorem c215 : (pG L xs).2.2.1 215 = 12 := rfl
theorem k215_1 : b215 (Int.toNat (.ofNat 1)) = b215_1 := rfl
theorem k215_2 : b215 (Int.toNat (.ofNat 2)) = b215_2 := rfl
theorem m216 : Call (pG L xs) pM (d + 1) 216 as h Q = ((xent as).length ≤ 3 ∧ Ev (pG L xs) pM d b216 (some FieldType.int) Q b216_0 (xentry as 3) [] h) := rfl
theorem n216 : (pG L xs).2.1 216 = 3 := rfl
theorem c216 : (pG L xs).2.2.1 216 = 12 := rfl
theorem k216_1 : b216 (Int.toNat (.ofNat 1)) = b216_1 := rfl
theorem k216_2 : b216 (Int.toNat (.ofNat 2)) = b216_2 := rfl
theorem m217 : Call (pG L xs) pM (d + 1) 217 as h Q = ((xent as).length ≤ 3 ∧ Ev (pG L xs) pM d b217 (none) Q b217_0 (xentry as 3) [] h) := rfl
theorem n217 : (pG L xs).2.1 217 = 2 := rfl
theorem c217 : (pG L xs).2.2.1 217 = 12 := rfl
theorem m218 : Call (pG L xs) pM (d + 1) 218 as h Q = ((xent as).length ≤ 4 ∧ Ev (pG L xs) pM d b218 (none) Q b218_0 (xentry as 4) [] h) := rfl
theorem n218 : (pG L xs).2.1 218 = 4 := rfl
theorem c218 : (pG L xs).2.2.1 218 = 12 := rfl
theorem m219 : Call (pG L xs) pM (d + 1) 219 as h Q = ((xent as).length ≤ 3 ∧ Ev (pG L xs) pM d b219 (none) Q b219_0 (xentry as 3) [] h) := rfl
theorem n219 : (pG L xs).2.1 219 = 3 := rfl
theorem c219 : (pG L xs).2.2.1 219 = 12 := rfl
theorem k219_1 : b219 (Int.toNat (.ofNat 1)) = b219_1 := rfl
theorem m220 : Call (pG L xs) pM (d + 1) 220 as h Q = ((xent as).length ≤ 4 ∧ Ev (pG L xs) pM d b220 (some FieldType.long) Q b220_0 (xentry as 4) [] h) := rfl
theorem n220 : (pG L xs).2.1 220 = 2 := rfl
theorem c220 : (pG L xs).2.2.1 220 = 12 := rfl
theorem k220_1 : b220 (Int.toNat (.ofNat 1)) = b220_1 := rfl
theorem k220_2 : b220 (Int.toNat (.ofNat 2)) = b220_2 := rfl
theorem k220_3 : b220 (Int.toNat (.ofNat 3)) = b220_3 := rfl
theorem k220_4 : b220 (Int.toNat (.ofNat 4)) = b220_4 := rfl
theorem k220_0 : b220 (Int.toNat (.ofNat 0)) = b220_0 := rfl
theorem m221 : Call (pG L xs) pM (d + 1) 221 as h Q = ((xent as).length ≤ 3 ∧ Ev (pG L xs) pM d b221 (some FieldType.long) Q b221_0 (xentry as 3) [] h) := rfl
theorem n221 : (pG L xs).2.1 221 = 3 := rfl
theorem c221 : (pG L xs).2.2.1 221 = 12 := rfl
theorem k221_1 : b221 (Int.toNat (.ofNat 1)) = b221_1 := rfl
theorem k221_2 : b221 (Int.toNat (.ofNat 2)) = b221_2 := rfl
theorem k221_3 : b221 (Int.toNat (.ofNat 3)) = b221_3 := rfl
theorem k221_4 : b221 (Int.toNat (.ofNat 4)) = b221_4 := rfl
theorem k221_5 : b221 (Int.toNat (.ofNat 5)) = b221_5 := rfl
theorem k221_6 : b221 (Int.toNat (.ofNat 6)) = b221_6 := rfl
theorem k221_7 : b221 (Int.toNat (.ofNat 7)) = b221_7 := rfl
theorem k221_0 : b221 (Int.toNat (.ofNat 0)) = b221_0 := rfl
theorem m222 : Call (pG L xs) pM (d + 1) 222 as h Q = ((xent as).length ≤ 9 ∧ Ev (pG L xs) pM d b222 (some FieldType.int) Q b222_0 (xentry as 9) [] h) := rfl
theorem n222 : (pG L xs).2.1 222 = 2 := rfl
theorem c222 : (pG L xs).2.2.1 222 = 12 := rfl
theorem k222_1 : b222 (Int.toNat (.ofNat 1)) = b222_1 := rfl
theorem k222_2 : b222 (Int.toNat (.ofNat 2)) = b222_2 := rfl
theorem k222_3 : b222 (Int.toNat (.ofNat 3)) = b222_3 := rfl
theorem k222_4 : b222 (Int.toNat (.ofNat 4)) = b222_4 := rfl
theorem k222_5 : b222 (Int.toNat (.ofNat 5)) = b222_5 := rfl
theorem k222_6 : b222 (Int.toNat (.ofNat 6)) = b222_6 := rfl
theorem k222_7 : b222 (Int.toNat (.ofNat 7)) = b222_7 := rfl
theorem k222_8 : b222 (Int.toNat (.ofNat 8)) = b222_8 := rfl
theorem k222_0 : b222 (Int.toNat (.ofNat 0)) = b222_0 := rfl
theorem m223 : Call (pG L xs) pM (d + 1) 223 as h Q = ((xent as).length ≤ 3 ∧ Ev (pG L xs) pM d b223 (some FieldType.int) Q b223_0 (xentry as 3) [] h) := rfl
theorem n223 : (pG L xs).2.1 223 = 1 := rfl
theorem c223 : (pG L xs).2.2.1 223 = 12 := rfl
theorem k223_1 : b223 (Int.toNat (.ofNat 1)) = b223_1 := rfl
theorem k223_2 : b223 (Int.toNat (.ofNat 2)) = b223_2 := rfl
theorem k223_3 : b223 (Int.toNat (.ofNat 3)) = b223_3 := rfl
theorem k223_4 : b223 (Int.toNat (.ofNat 4)) = b223_4 := rfl
theorem k223_5 : b223 (Int.toNat (.ofNat 5)) = b223_5 := rfl
theorem k223_6 : b223 (Int.toNat (.ofNat 6)) = b223_6 := rfl
theorem k223_7 : b223 (Int.toNat (.ofNat 7)) = b223_7 := rfl
theorem k223_8 : b223 (Int.toNat (.ofNat 8)) = b223_8 := rfl
theorem k223_0 : b223 (Int.toNat (.ofNat 0)) = b223_0 := rfl
theorem m224 : Call (pG L xs) pM (d + 1) 224 as h Q = ((xent as).length ≤ 2 ∧ Ev (pG L xs) pM d b224 (none) Q b224_0 (xentry as 2) [] h) := rfl
theorem n224 : (pG L xs).2.1 224 = 1 := rfl
theorem c224 : (pG L xs).2.2.1 224 = 12 := rfl
theorem k224_1 : b224 (Int.toNat (.ofNat 1)) = b224_1 := rfl
theorem k224_2 : b224 (Int.toNat (.ofNat 2)) = b224_2 := rfl
theorem k224_3 : b224 (Int.toNat (.ofNat 3)) = b224_3 := rfl
theorem k224_4 : b224 (Int.toNat (.ofNat 4)) = b224_4 := rfl
theorem k224_5 : b224 (Int.toNat (.ofNat 5)) = b224_5 := rfl
theorem k224_0 : b224 (Int.toNat (.ofNat 0)) = b224_0 := rfl
theorem m225 : Call (pG L xs) pM (d + 1) 225 as h Q = ((xent as).length ≤ 2 ∧ Ev (pG L xs) pM d b225 (some FieldType.int) Q b225_0 (xentry as 2) [] h) := rfl
theorem n225 : (pG L xs).2.1 225 = 1 := rfl
theorem c225 : (pG L xs).2.2.1 225 = 12 := rfl
theorem k225_1 : b225 (Int.toNat (.ofNat 1)) = b225_1 := rfl
theorem k225_2 : b225 (Int.toNat (.ofNat 2)) = b225_2 := rfl
theorem k225_3 : b225 (Int.toNat (.ofNat 3)) = b225_3 := rfl
theorem k225_0 : b225 (Int.toNat (.ofNat 0)) = b225_0 := rfl
theorem m226 : Call (pG L xs) pM (d + 1) 226 as h Q = ((xent as).length ≤ 1 ∧ Ev (pG L xs) pM d b226 (some FieldType.int) Q b226_0 (xentry as 1) [] h) := rfl
theorem n226 : (pG L xs).2.1 226 = 1 := rfl
theorem c226 : (pG L xs).2.2.1 226 = 12 := rfl
theorem k226_1 : b226 (Int.toNat (.ofNat 1)) = b226_1 := rfl
theorem k226_2 : b226 (Int.toNat (.ofNat 2)) = b226_2 := rfl
theorem m227 : Call (pG L xs) pM (d + 1) 227 as h Q = ((xent as).length ≤ 3 ∧ Ev (pG L xs) pM d b227 (some FieldType.int) Q b227_0 (xentry as 3) [] h) := rfl
theorem n227 : (pG L xs).2.1 227 = 3 := rfl
theorem c227 : (pG L xs).2.2.1 227 = 12 := rfl
theorem k227_1 : b227 (Int.toNat (.ofNat 1)) = b227_1 := rfl
theorem k227_2 : b227 (Int.toNat (.ofNat 2)) = b227_2 := rfl
theorem m228 : Call (pG L xs) pM (d + 1) 228 as h Q = ((xent as).length ≤ 5 ∧ Ev (pG L xs) pM d b228 (some FieldType.int) Q b228_0 (xentry as 5) [] h) := rfl
theorem n228 : (pG L xs).2.1 228 = 4 := rfl
theorem c228 : (pG L xs).2.2.1 228 = 12 := rfl
theorem k228_1 : b228 (Int.toNat (.ofNat 1)) = b228_1 := rfl
theorem k228_2 : b228 (Int.toNat (.ofNat 2)) = b228_2 := rfl
theorem k228_0 : b228 (Int.toNat (.ofNat 0)) = b228_0 := rfl
theorem m229 : Call (pG L xs) pM (d + 1) 229 as h Q = ((xent as).length ≤ 4 ∧ Ev (pG L xs) pM d b229 (some FieldType.int) Q b229_0 (xentry as 4) [] h) := rfl
theorem n229 : (pG L xs).2.1 229 = 4 := rfl
theorem c229 : (pG L xs).2.2.1 229 = 12 := rfl
theorem k229_1 : b229 (Int.toNat (.ofNat 1)) = b229_1 := rfl
theorem k229_2 : b229 (Int.toNat (.ofNat 2)) = b229_2 := rfl
theorem m230 : Call (pG L xs) pM (d + 1) 230 as h Q = ((xent as).length ≤ 3 ∧ Ev (pG L xs) pM d b230 (some FieldType.int) Q b230_0 (xentry as 3) [] h) := rfl
theorem n230 : (pG L xs).2.1 230 = 2 := rfl
theorem c230 : (pG L xs).2.2.1 230 = 12 := rfl
theorem k230_1 : b230 (Int.toNat (.ofNat 1)) = b230_1 := rfl
theorem k230_2 : b230 (Int.toNat (.ofNat 2)) = b230_2 := rfl
theorem k230_0 : b230 (Int.toNat (.ofNat 0)) = b230_0 := rfl
theorem m231 : Call (pG L xs) pM (d + 1) 231 as h Q = ((xent as).length ≤ 2 ∧ Ev (pG L xs) pM d b231 (none) Q b231_0 (xentry as 2) [] h) := rfl
theorem n231 : (pG L xs).2.1 231 = 1 := rfl
theorem c231 : (pG L xs).2.2.1 231 = 12 := rfl
theorem k231_1 : b231 (Int.toNat (.ofNat 1)) = b231_1 := rfl
theorem k231_2 : b231 (Int.toNat (.ofNat 2)) = b231_2 := rfl
theorem k231_0 : b231 (Int.toNat (.ofNat 0)) = b231_0 := rfl
theorem m232 : Call (pG L xs) pM (d + 1) 232 as h Q = ((xent as).length ≤ 2 ∧ Ev (pG L xs) pM d b232 (none) Q b232_0 (xentry as 2) [] h) := rfl
theorem n232 : (pG L xs).2.1 232 = 1 := rfl
theorem c232 : (pG L xs).2.2.1 232 = 12 := rfl
theorem k232_1 : b232 (Int.toNat (.ofNat 1)) = b232_1 := rfl
theorem k232_2 : b232 (Int.toNat (.ofNat 2)) = b232_2 := rfl
theorem k232_0 : b232 (Int.toNat (.ofNat 0)) = b232_0 := rfl
theorem m233 : Call (pG L xs) pM (d + 1) 233 as h Q = ((xent as).length ≤ 5 ∧ Ev (pG L xs) pM d b233 (some FieldType.int) Q b233_0 (xentry as 5) [] h) := rfl
theorem n233 : (pG L xs).2.1 233 = 4 := rfl
theorem c233 : (pG L xs).2.2.1 233 = 12 := rfl
theorem k233_1 : b233 (Int.toNat (.ofNat 1)) = b233_1 := rfl
theorem k233_2 : b233 (Int.toNat (.ofNat 2)) = b233_2 := rfl
theorem k233_3 : b233 (Int.toNat (.ofNat 3)) = b233_3 := rfl
theorem k233_4 : b233 (Int.toNat (.ofNat 4)) = b233_4 := rfl
theorem k233_5 : b233 (Int.toNat (.ofNat 5)) = b233_5 := rfl
theorem k233_6 : b233 (Int.toNat (.ofNat 6)) = b233_6 := rfl
theorem k233_7 : b233 (Int.toNat (.ofNat 7)) = b233_7 := rfl
theorem k233_0 : b233 (Int.toNat (.ofNat 0)) = b233_0 := rfl
theorem m234 : Call (pG L xs) pM (d + 1) 234 as h Q = ((xent as).length ≤ 3 ∧ Ev (pG L xs) pM d b234 (some FieldType.int) Q b234_0 (xentry as 3) [] h) := rfl
theorem n234 : (pG L xs).2.1 234 = 1 := rfl
theorem c234 : (pG L xs).2.2.1 234 = 12 := rfl
theorem k234_1 : b234 (Int.toNat (.ofNat 1)) = b234_1 := rfl
theorem k234_2 : b234 (Int.toNat (.ofNat 2)) = b234_2 := rfl
theorem k234_3 : b234 (Int.toNat (.ofNat 3)) = b234_3 := rfl
theorem k234_4 : b234 (Int.toNat (.ofNat 4)) = b234_4 := rfl
theorem k234_0 : b234 (Int.toNat (.ofNat 0)) = b234_0 := rfl
theorem m235 : Call (pG L xs) pM (d + 1) 235 as h Q = ((xent as).length ≤ 4 ∧ Ev (pG L xs) pM d b235 (none) Q b235_0 (xentry as 4) [] h) := rfl
theorem n235 : (pG L xs).2.1 235 = 1 := rfl
theorem c235 : (pG L xs).2.2.1 235 = 12 := rfl
theorem k235_1 : b235 (Int.toNat (.ofNat 1)) = b235_1 := rfl
theorem k235_2 : b235 (Int.toNat (.ofNat 2)) = b235_2 := rfl
theorem k235_3 : b235 (Int.toNat (.ofNat 3)) = b235_3 := rfl
theorem k235_4 : b235 (Int.toNat (.ofNat 4)) = b235_4 := rfl
theorem k235_5 : b235 (Int.toNat (.ofNat 5)) = b235_5 := rfl
theorem k235_6 : b235 (Int.toNat (.ofNat 6)) = b235_6 := rfl
theorem k235_7 : b235 (Int.toNat (.ofNat 7)) = b235_7 := rfl
theorem k235_8 : b235 (Int.toNat (.ofNat 8)) = b235_8 := rfl
theorem k235_0 : b235 (Int.toNat (.ofNat 0)) = b235_0 := rfl
theorem m236 : Call (pG L xs) pM (d + 1) 236 as h Q = ((xent as).length ≤ 3 ∧ Ev (pG L xs) pM d b236 (none) Q b236_0 (xentry as 3) [] h) := rfl
theorem n236 : (pG L xs).2.1 236 = 2 := rfl
theorem c236 : (pG L xs).2.2.1 236 = 12 := rfl
theorem k236_1 : b236 (Int.toNat (.ofNat 1)) = b236_1 := rfl
theorem m237 : Call (pG L xs) pM (d + 1) 237 as h Q = ((xent as).length ≤ 3 ∧ Ev (pG L xs) pM d b237 (some FieldType.boolean) Q b237_0 (xentry as 3) [] h) := rfl
theorem n237 : (pG L xs).2.1 237 = 2 := rfl
theorem c237 : (pG L xs).2.2.1 237 = 12 := rfl
theorem k237_1 : b237 (Int.toNat (.ofNat 1)) = b237_1 := rfl
theorem k237_2 : b237 (Int.toNat (.ofNat 2)) = b237_2 := rfl
theorem k237_3 : b237 (Int.toNat (.ofNat 3)) = b237_3 := rfl
theorem k237_4 : b237 (Int.toNat (.ofNat 4)) = b237_4 := rfl
theorem k237_5 : b237 (Int.toNat (.ofNat 5)) = b237_5 := rfl
theorem k237_6 : b237 (Int.toNat (.ofNat 6)) = b237_6 := rfl
theorem k237_7 : b237 (Int.toNat (.ofNat 7)) = b237_7 := rfl
theorem k237_8 : b237 (Int.toNat (.ofNat 8)) = b237_8 := rfl
theorem k237_0 : b237 (Int.toNat (.ofNat 0)) = b237_0 := rfl
theorem m238 : Call (pG L xs) pM (d + 1) 238 as h Q = ((xent as).length ≤ 3 ∧ Ev (pG L xs) pM d b238 (some FieldType.int) Q b238_0 (xentry as 3) [] h) := rfl
theorem n238 : (pG L xs).2.1 238 = 2 := rfl
theorem c238 : (pG L xs).2.2.1 238 = 12 := rfl
theorem k238_1 : b238 (Int.toNat (.ofNat 1)) = b238_1 := rfl
theorem k238_2 : b238 (Int.toNat (.ofNat 2)) = b238_2 := rfl
theorem k238_3 : b238 (Int.toNat (.ofNat 3)) = b238_3 := rfl
theorem k238_0 : b238 (Int.toNat (.ofNat 0)) = b238_0 := rfl
theorem m239 : Call (pG L xs) pM (d + 1) 239 as h Q = ((xent as).length ≤ 3 ∧ Ev (pG L xs) pM d b239 (some FieldType.int) Q b239_0 (xentry as 3) [] h) := rfl
theorem n239 : (pG L xs).2.1 239 = 2 := rfl
theorem c239 : (pG L xs).2.2.1 239 = 12 := rfl
theorem k239_1 : b239 (Int.toNat (.ofNat 1)) = b239_1 := rfl
theorem k239_2 : b239 (Int.toNat (.ofNat 2)) = b239_2 := rfl
theorem m240 : Call (pG L xs) pM (d + 1) 240 as h Q = ((xent as).length ≤ 3 ∧ Ev (pG L xs) pM d b240 (none) Q b240_0 (xentry as 3) [] h) := rfl
theorem n240 : (pG L xs).2.1 240 = 1 := rfl
theorem c240 : (pG L xs).2.2.1 240 = 12 := rfl
theorem k240_1 : b240 (Int.toNat (.ofNat 1)) = b240_1 := rfl
theorem k240_2 : b240 (Int.toNat (.ofNat 2)) = b240_2 := rfl
theorem k240_3 : b240 (Int.toNat (.ofNat 3)) = b240_3 := rfl
theorem k240_4 : b240 (Int.toNat (.ofNat 4)) = b240_4 := rfl
theorem k240_5 : b240 (Int.toNat (.ofNat 5)) = b240_5 := rfl
theorem k240_6 : b240 (Int.toNat (.ofNat 6)) = b240_6 := rfl
theorem k240_7 : b240 (Int.toNat (.ofNat 7)) = b240_7 := rfl
theorem k240_0 : b240 (Int.toNat (.ofNat 0)) = b240_0 := rfl
theorem m241 : Call (pG L xs) pM (d + 1) 241 as h Q = ((xent as).length ≤ 2 ∧ Ev (pG L xs) pM d b241 (some FieldType.int) Q b241_0 (xentry as 2) [] h) := rfl
theorem n241 : (pG L xs).2.1 241 = 2 := rfl
theorem c241 : (pG L xs).2.2.1 241 = 12 := rfl
theorem k241_1 : b241 (Int.toNat (.ofNat 1)) = b241_1 := rfl
theorem k241_2 : b241 (Int.toNat (.ofNat 2)) = b241_2 := rfl
theorem k241_3 : b241 (Int.toNat (.ofNat 3)) = b241_3 := rfl
theorem k241_4 : b241 (Int.toNat (.ofNat 4)) = b241_4 := rfl
theorem k241_5 : b241 (Int.toNat (.ofNat 5)) = b241_5 := rfl
theorem k241_6 : b241 (Int.toNat (.ofNat 6)) = b241_6 := rfl
theorem k241_7 : b241 (Int.toNat (.ofNat 7)) = b241_7 := rfl
theorem k241_0 : b241 (Int.toNat (.ofNat 0)) = b241_0 := rfl
theorem m242 : Call (pG L xs) pM (d + 1) 242 as h Q = ((xent as).length ≤ 4 ∧ Ev (pG L xs) pM d b242 (some FieldType.int) Q b242_0 (xentry as 4) [] h) := rfl
theorem n242 : (pG L xs).2.1 242 = 4 := rfl
theorem c242 : (pG L xs).2.2.1 242 = 12 := rfl
theorem k242_1 : b242 (Int.toNat (.ofNat 1)) = b242_1 := rfl
theorem k242_2 : b242 (Int.toNat (.ofNat 2)) = b242_2 := rfl
theorem m243 : Call (pG L xs) pM (d + 1) 243 as h Q = ((xent as).length ≤ 6 ∧ Ev (pG L xs) pM d b243 (some FieldType.boolean) Q b243_0 (xentry as 6) [] h) := rfl
theorem n243 : (pG L xs).2.1 243 = 5 := rfl
theorem c243 : (pG L xs).2.2.1 243 = 12 := rfl
theorem k243_1 : b243 (Int.toNat (.ofNat 1)) = b243_1 := rfl
theorem k243_2 : b243 (Int.toNat (.ofNat 2)) = b243_2 := rfl
theorem k243_0 : b243 (Int.toNat (.ofNat 0)) = b243_0 := rfl
theorem m244 : Call (pG L xs) pM (d + 1) 244 as h Q = ((xent as).length ≤ 5 ∧ Ev (pG L xs) pM d b244 (some FieldType.boolean) Q b244_0 (xentry as 5) [] h) := rfl
theorem n244 : (pG L xs).2.1 244 = 3 := rfl
theorem c244 : (pG L xs).2.2.1 244 = 12 := rfl
theorem k244_1 : b244 (Int.toNat (.ofNat 1)) = b244_1 := rfl
theorem k244_2 : b244 (Int.toNat (.ofNat 2)) = b244_2 := rfl
theorem k244_3 : b244 (Int.toNat (.ofNat 3)) = b244_3 := rfl
theorem k244_4 : b244 (Int.toNat (.ofNat 4)) = b244_4 := rfl
theorem k244_5 : b244 (Int.toNat (.ofNat 5)) = b244_5 := rfl
theorem k244_0 : b244 (Int.toNat (.ofNat 0)) = b244_0 := rfl
theorem m245 : Call (pG L xs) pM (d + 1) 245 as h Q = ((xent as).length ≤ 4 ∧ Ev (pG L xs) pM d b245 (none) Q b245_0 (xentry as 4) [] h) := rfl
theorem n245 : (pG L xs).2.1 245 = 1 := rfl
theorem c245 : (pG L xs).2.2.1 245 = 12 := rfl
theorem k245_1 : b245 (Int.toNat (.ofNat 1)) = b245_1 := rfl
theorem k245_2 : b245 (Int.toNat (.ofNat 2)) = b245_2 := rfl
theorem k245_3 : b245 (Int.toNat (.ofNat 3)) = b245_3 := rfl
theorem k245_4 : b245 (Int.toNat (.ofNat 4)) = b245_4 := rfl
theorem k245_5 : b245 (Int.toNat (.ofNat 5)) = b245_5 := rfl
theorem k245_6 : b245 (Int.toNat (.ofNat 6)) = b245_6 := rfl
theorem k245_7 : b245 (Int.toNat (.ofNat 7)) = b245_7 := rfl
theorem k245_8 : b245 (Int.toNat (.ofNat 8)) = b245_8 := rfl
theorem k245_9 : b245 (Int.toNat (.ofNat 9)) = b245_9 := rfl
theorem k245_10 : b245 (Int.toNat (.ofNat 10)) = b245_10 := rfl
theorem k245_0 : b245 (Int.toNat (.ofNat 0)) = b245_0 := rfl
theorem m246 : Call (pG L xs) pM (d + 1) 246 as h Q = ((xent as).length ≤ 4 ∧ Ev (pG L xs) pM d b246 (some FieldType.int) Q b246_0 (xentry as 4) [] h) := rfl
theorem n246 : (pG L xs).2.1 246 = 1 := rfl
theorem c246 : (pG L xs).2.2.1 246 = 12 := rfl
theorem k246_1 : b246 (Int.toNat (.ofNat 1)) = b246_1 := rfl
theorem k246_2 : b246 (Int.toNat (.ofNat 2)) = b246_2 := rfl
theorem k246_3 : b246 (Int.toNat (.ofNat 3)) = b246_3 := rfl
theorem k246_4 : b246 (Int.toNat (.ofNat 4)) = b246_4 := rfl
theorem k246_5 : b246 (Int.toNat (.ofNat 5)) = b246_5 := rfl
theorem k246_6 : b246 (Int.toNat (.ofNat 6)) = b246_6 := rfl
theorem k246_7 : b246 (Int.toNat (.ofNat 7)) = b246_7 := rfl
theorem k246_8 : b246 (Int.toNat (.ofNat 8)) = b246_8 := rfl
theorem k246_0 : b246 (Int.toNat (.ofNat 0)) = b246_0 := rfl
theorem m247 : Call (pG L xs) pM (d + 1) 247 as h Q = ((xent as).length ≤ 3 ∧ Ev (pG L xs) pM d b247 (some FieldType.int) Q b247_0 (xentry as 3) [] h) := rfl
theorem n247 : (pG L xs).2.1 247 = 2 := rfl
theorem c247 : (pG L xs).2.2.1 247 = 12 := rfl
theorem k247_1 : b247 (Int.toNat (.ofNat 1)) = b247_1 := rfl
theorem k247_2 : b247 (Int.toNat (.ofNat 2)) = b247_2 := rfl
theorem k247_3 : b247 (Int.toNat (.ofNat 3)) = b247_3 := rfl
theorem k247_4 : b247 (Int.toNat (.ofNat 4)) = b247_4 := rfl
theorem k247_5 : b247 (Int.toNat (.ofNat 5)) = b247_5 := rfl
theorem k247_6 : b247 (Int.toNat (.ofNat 6)) = b247_6 := rfl
theorem k247_7 : b247 (Int.toNat (.ofNat 7)) = b247_7 := rfl
theorem k247_0 : b247 (Int.toNat (.ofNat 0)) = b247_0 := rfl
theorem m248 : Call (pG L xs) pM (d + 1) 248 as h Q = ((xent as).length ≤ 3 ∧ Ev (pG L xs) pM d b248 (some FieldType.boolean) Q b248_0 (xentry as 3) [] h) := rfl
theorem n248 : (pG L xs).2.1 248 = 3 := rfl
theorem c248 : (pG L xs).2.2.1 248 = 12 := rfl
theorem k248_1 : b248 (Int.toNat (.ofNat 1)) = b248_1 := rfl
theorem k248_2 : b248 (Int.toNat (.ofNat 2)) = b248_2 := rfl
theorem k248_0 : b248 (Int.toNat (.ofNat 0)) = b248_0 := rfl
theorem m249 : Call (pG L xs) pM (d + 1) 249 as h Q = ((xent as).length ≤ 4 ∧ Ev (pG L xs) pM d b249 (some FieldType.boolean) Q b249_0 (xentry as 4) [] h) := rfl
theorem n249 : (pG L xs).2.1 249 = 2 := rfl
theorem c249 : (pG L xs).2.2.1 249 = 12 := rfl
theorem k249_1 : b249 (Int.toNat (.ofNat 1)) = b249_1 := rfl
theorem k249_2 : b249 (Int.toNat (.ofNat 2)) = b249_2 := rfl
theorem k249_3 : b249 (Int.toNat (.ofNat 3)) = b249_3 := rfl
theorem k249_4 : b249 (Int.toNat (.ofNat 4)) = b249_4 := rfl
theorem k249_5 : b249 (Int.toNat (.ofNat 5)) = b249_5 := rfl
theorem k249_0 : b249 (Int.toNat (.ofNat 0)) = b249_0 := rfl
theorem m250 : Call (pG L xs) pM (d + 1) 250 as h Q = ((xent as).length ≤ 4 ∧ Ev (pG L xs) pM d b250 (some FieldType.boolean) Q b250_0 (xentry as 4) [] h) := rfl
theorem n250 : (pG L xs).2.1 250 = 3 := rfl
theorem c250 : (pG L xs).2.2.1 250 = 12 := rfl
theorem k250_1 : b250 (Int.toNat (.ofNat 1)) = b250_1 := rfl
theorem k250_2 : b250 (Int.toNat (.ofNat 2)) = b250_2 := rfl
theorem k250_3 : b250 (Int.toNat (.ofNat 3)) = b250_3 := rfl
theorem k250_4 : b250 (Int.toNat (.ofNat 4)) = b250_4 := rfl
theorem k250_0 : b250 (Int.toNat (.ofNat 0)) = b250_0 := rfl
theorem m251 : Call (pG L xs) pM (d + 1) 251 as h Q = ((xent as).length ≤ 6 ∧ Ev (pG L xs) pM d b251 (some FieldType.int) Q b251_0 (xentry as 6) [] h) := rfl
theorem n251 : (pG L xs).2.1 251 = 2 := rfl
theorem c251 : (pG L xs).2.2.1 251 = 12 := rfl
theorem k251_1 : b251 (Int.toNat (.ofNat 1)) = b251_1 := rfl
theorem k251_2 : b251 (Int.toNat (.ofNat 2)) = b251_2 := rfl
theorem k251_3 : b251 (Int.toNat (.ofNat 3)) = b251_3 := rfl
theorem k251_4 : b251 (Int.toNat (.ofNat 4)) = b251_4 := rfl
theorem k251_5 : b251 (Int.toNat (.ofNat 5)) = b251_5 := rfl
theorem k251_6 : b251 (Int.toNat (.ofNat 6)) = b251_6 := rfl
theorem k251_7 : b251 (Int.toNat (.ofNat 7)) = b251_7 := rfl
theorem k251_8 : b251 (Int.toNat (.ofNat 8)) = b251_8 := rfl
theorem k251_9 : b251 (Int.toNat (.ofNat 9)) = b251_9 := rfl
theorem k251_10 : b251 (Int.toNat (.ofNat 10)) = b251_10 := rfl
theorem k251_11 : b251 (Int.toNat (.ofNat 11)) = b251_11 := rfl
theorem k251_12 : b251 (Int.toNat (.ofNat 12)) = b251_12 := rfl
theorem k251_0 : b251 (Int.toNat (.ofNat 0)) = b251_0 := rfl
theorem m252 : Call (pG L xs) pM (d + 1) 252 as h Q = ((xent as).length ≤ 3 ∧ Ev (pG L xs) pM d b252 (some FieldType.boolean) Q b252_0 (xentry as 3) [] h) := rfl
theorem n252 : (pG L xs).2.1 252 = 2 := rfl
theorem c252 : (pG L xs).2.2.1 252 = 12 := rfl
theorem k252_1 : b252 (Int.toNat (.ofNat 1)) = b252_1 := rfl
theorem k252_2 : b252 (Int.toNat (.ofNat 2)) = b252_2 := rfl
theorem k252_3 : b252 (Int.toNat (.ofNat 3)) = b252_3 := rfl
theorem k252_4 : b252 (Int.toNat (.ofNat 4)) = b252_4 := rfl
theorem k252_0 : b252 (Int.toNat (.ofNat 0)) = b252_0 := rfl
theorem m253 : Call (pG L xs) pM (d + 1) 253 as h Q = ((xent as).length ≤ 3 ∧ Ev (pG L xs) pM d b253 (some FieldType.int) Q b253_0 (xentry as 3) [] h) := rfl
theorem n253 : (pG L xs).2.1 253 = 1 := rfl
theorem c253 : (pG L xs).2.2.1 253 = 12 := rfl
theorem k253_1 : b253 (Int.toNat (.ofNat 1)) = b253_1 := rfl
theorem k253_2 : b253 (Int.toNat (.ofNat 2)) = b253_2 := rfl
theorem k253_3 : b253 (Int.toNat (.ofNat 3)) = b253_3 := rfl
theorem k253_4 : b253 (Int.toNat (.ofNat 4)) = b253_4 := rfl
theorem k253_0 : b253 (Int.toNat (.ofNat 0)) = b253_0 := rfl
theorem m254 : Call (pG L xs) pM (d + 1) 254 as h Q = ((xent as).length ≤ 10 ∧ Ev (pG L xs) pM d b254 (some FieldType.int) Q b254_0 (xentry as 10) [] h) := rfl
theorem n254 : (pG L xs).2.1 254 = 2 := rfl
theorem c254 : (pG L xs).2.2.1 254 = 12 := rfl
theorem k254_1 : b254 (Int.toNat (.ofNat 1)) = b254_1 := rfl
theorem k254_2 : b254 (Int.toNat (.ofNat 2)) = b254_2 := rfl
theorem k254_3 : b254 (Int.toNat (.ofNat 3)) = b254_3 := rfl
theorem k254_4 : b254 (Int.toNat (.ofNat 4)) = b254_4 := rfl
theorem k254_5 : b254 (Int.toNat (.ofNat 5)) = b254_5 := rfl
theorem k254_6 : b254 (Int.toNat (.ofNat 6)) = b254_6 := rfl
theorem k254_7 : b254 (Int.toNat (.ofNat 7)) = b254_7 := rfl
theorem k254_8 : b254 (Int.toNat (.ofNat 8)) = b254_8 := rfl
theorem k254_9 : b254 (Int.toNat (.ofNat 9)) = b254_9 := rfl
theorem k254_10 : b254 (Int.toNat (.ofNat 10)) = b254_10 := rfl
theorem k254_11 : b254 (Int.toNat (.ofNat 11)) = b254_11 := rfl
theorem k254_0 : b254 (Int.toNat (.ofNat 0)) = b254_0 := rfl
theorem m255 : Call (pG L xs) pM (d + 1) 255 as h Q = ((xent as).length ≤ 5 ∧ Ev (pG L xs) pM d b255 (some FieldType.int) Q b255_0 (xentry as 5) [] h) := rfl
theorem n255 : (pG L xs).2.1 255 = 2 := rfl
theorem c255 : (pG L xs).2.2.1 255 = 12 := rfl
theorem k255_1 : b255 (Int.toNat (.ofNat 1)) = b255_1 := rfl
theorem k255_2 : b255 (Int.toNat (.ofNat 2)) = b255_2 := rfl
theorem k255_3 : b255 (Int.toNat (.ofNat 3)) = b255_3 := rfl
theorem k255_4 : b255 (Int.toNat (.ofNat 4)) = b255_4 := rfl
theorem k255_0 : b255 (Int.toNat (.ofNat 0)) = b255_0 := rfl
theorem m256 : Call (pG L xs) pM (d + 1) 256 as h Q = ((xent as).length ≤ 5 ∧ Ev (pG L xs) pM d b256 (some FieldType.int) Q b256_0 (xentry as 5) [] h) := rfl
theorem n256 : (pG L xs).2.1 256 = 1 := rfl
theorem c256 : (pG L xs).2.2.1 256 = 12 := rfl
theorem k256_1 : b256 (Int.toNat (.ofNat 1)) = b256_1 := rfl
theorem k256_2 : b256 (Int.toNat (.ofNat 2)) = b256_2 := rfl
theorem k256_3 : b256 (Int.toNat (.ofNat 3)) = b256_3 := rfl
theorem k256_4 : b256 (Int.toNat (.ofNat 4)) = b256_4 := rfl
theorem k256_5 : b256 (Int.toNat (.ofNat 5)) = b256_5 := rfl
theorem k256_6 : b256 (Int.toNat (.ofNat 6)) = b256_6 := rfl
theorem k256_7 : b256 (Int.toNat (.ofNat 7)) = b256_7 := rfl
theorem k256_8 : b256 (Int.toNat (.ofNat 8)) = b256_8 := rfl
theorem k256_9 : b256 (Int.toNat (.ofNat 9)) = b256_9 := rfl
theorem k256_10 : b256 (Int.toNat (.ofNat 10)) = b256_10 := rfl
theorem k256_0 : b256 (Int.toNat (.ofNat 0)) = b256_0 := rfl
theorem m257 : Call (pG L xs) pM (d + 1) 257 as h Q = ((xent as).length ≤ 7 ∧ Ev (pG L xs) pM d b257 (some FieldType.int) Q b257_0 (xentry as 7) [] h) := rfl
theorem n257 : (pG L xs).2.1 257 = 3 := rfl
theorem c257 : (pG L xs).2.2.1 257 = 12 := rfl
theorem k257_1 : b257 (Int.toNat (.ofNat 1)) = b257_1 := rfl
theorem k257_2 : b257 (Int.toNat (.ofNat 2)) = b257_2 := rfl
theorem k257_3 : b257 (Int.toNat (.ofNat 3)) = b257_3 := rfl
theorem k257_4 : b257 (Int.toNat (.ofNat 4)) = b257_4 := rfl
theorem k257_5 : b257 (Int.toNat (.ofNat 5)) = b257_5 := rfl
theorem k257_0 : b257 (Int.toNat (.ofNat 0)) = b257_0 := rfl
theorem m258 : Call (pG L xs) pM (d + 1) 258 as h Q = ((xent as).length ≤ 3 ∧ Ev (pG L xs) pM d b258 (some FieldType.int) Q b258_0 (xentry as 3) [] h) := rfl
theorem n258 : (pG L xs).2.1 258 = 2 := rfl
theorem c258 : (pG L xs).2.2.1 258 = 12 := rfl
theorem k258_1 : b258 (Int.toNat (.ofNat 1)) = b258_1 := rfl
theorem k258_2 : b258 (Int.toNat (.ofNat 2)) = b258_2 := rfl
theorem k258_0 : b258 (Int.toNat (.ofNat 0)) = b258_0 := rfl
theorem m259 : Call (pG L xs) pM (d + 1) 259 as h Q = ((xent as).length ≤ 8 ∧ Ev (pG L xs) pM d b259 (some FieldType.int) Q b259_0 (xentry as 8) [] h) := rfl
theorem n259 : (pG L xs).2.1 259 = 3 := rfl
theorem c259 : (pG L xs).2.2.1 259 = 12 := rfl
theorem k259_1 : b259 (Int.toNat (.ofNat 1)) = b259_1 := rfl
theorem k259_2 : b259 (Int.toNat (.ofNat 2)) = b259_2 := rfl
theorem k259_3 : b259 (Int.toNat (.ofNat 3)) = b259_3 := rfl
theorem k259_4 : b259 (Int.toNat (.ofNat 4)) = b259_4 := rfl
theorem k259_5 : b259 (Int.toNat (.ofNat 5)) = b259_5 := rfl
theorem k259_6 : b259 (Int.toNat (.ofNat 6)) = b259_6 := rfl
theorem k259_7 : b259 (Int.toNat (.ofNat 7)) = b259_7 := rfl
theorem k259_8 : b259 (Int.toNat (.ofNat 8)) = b259_8 := rfl
theorem k259_0 : b259 (Int.toNat (.ofNat 0)) = b259_0 := rfl
theorem m260 : Call (pG L xs) pM (d + 1) 260 as h Q = ((xent as).length ≤ 4 ∧ Ev (pG L xs) pM d b260 (some FieldType.boolean) Q b260_0 (xentry as 4) [] h) := rfl
theorem n260 : (pG L xs).2.1 260 = 3 := rfl
theorem c260 : (pG L xs).2.2.1 260 = 12 := rfl
theorem k260_1 : b260 (Int.toNat (.ofNat 1)) = b260_1 := rfl
theorem k260_2 : b260 (Int.toNat (.ofNat 2)) = b260_2 := rfl
theorem k260_3 : b260 (Int.toNat (.ofNat 3)) = b260_3 := rfl
theorem k260_4 : b260 (Int.toNat (.ofNat 4)) = b260_4 := rfl
theorem k260_0 : b260 (Int.toNat (.ofNat 0)) = b260_0 := rfl
theorem m261 : Call (pG L xs) pM (d + 1) 261 as h Q = ((xent as).length ≤ 10 ∧ Ev (pG L xs) pM d b261 (some FieldType.int) Q b261_0 (xentry as 10) [] h) := rfl
theorem n261 : (pG L xs).2.1 261 = 5 := rfl
theorem c261 : (pG L xs).2.2.1 261 = 12 := rfl
theorem k261_1 : b261 (Int.toNat (.ofNat 1)) = b261_1 := rfl
theorem k261_2 : b261 (Int.toNat (.ofNat 2)) = b261_2 := rfl
theorem k261_3 : b261 (Int.toNat (.ofNat 3)) = b261_3 := rfl
theorem k261_4 : b261 (Int.toNat (.ofNat 4)) = b261_4 := rfl
theorem k261_5 : b261 (Int.toNat (.ofNat 5)) = b261_5 := rfl
theorem k261_6 : b261 (Int.toNat (.ofNat 6)) = b261_6 := rfl
theorem k261_7 : b261 (Int.toNat (.ofNat 7)) = b261_7 := rfl
theorem k261_8 : b261 (Int.toNat (.ofNat 8)) = b261_8 := rfl
theorem k261_9 : b261 (Int.toNat (.ofNat 9)) = b261_9 := rfl
theorem k261_10 : b261 (Int.toNat (.ofNat 10)) = b261_10 := rfl
theorem k261_11 : b261 (Int.toNat (.ofNat 11)) = b261_11 := rfl
theorem k261_12 : b261 (Int.toNat (.ofNat 12)) = b261_12 := rfl
theorem k261_13 : b261 (Int.toNat (.ofNat 13)) = b261_13 := rfl
theorem k261_14 : b261 (Int.toNat (.ofNat 14)) = b261_14 := rfl
theorem k261_0 : b261 (Int.toNat (.ofNat 0)) = b261_0 := rfl
theorem m262 : Call (pG L xs) pM (d + 1) 262 as h Q = ((xent as).length ≤ 6 ∧ Ev (pG L xs) pM d b262 (some FieldType.int) Q b262_0 (xentry as 6) [] h) := rfl
theorem n262 : (pG L xs).2.1 262 = 3 := rfl
theorem c262 : (pG L xs).2.2.1 262 = 12 := rfl
theorem k262_1 : b262 (Int.toNat (.ofNat 1)) = b262_1 := rfl
theorem k262_2 : b262 (Int.toNat (.ofNat 2)) = b262_2 := rfl
theorem k262_3 : b262 (Int.toNat (.ofNat 3)) = b262_3 := rfl
theorem k262_4 : b262 (Int.toNat (.ofNat 4)) = b262_4 := rfl
theorem k262_5 : b262 (Int.toNat (.ofNat 5)) = b262_5 := rfl
theorem m263 : Call (pG L xs) pM (d + 1) 263 as h Q = ((xent as).length ≤ 5 ∧ Ev (pG L xs) pM d b263 (some FieldType.int) Q b263_0 (xentry as 5) [] h) := rfl
theorem n263 : (pG L xs).2.1 263 = 4 := rfl
theorem c263 : (pG L xs).2.2.1 263 = 12 := rfl
theorem k263_1 : b263 (Int.toNat (.ofNat 1)) = b263_1 := rfl
theorem k263_2 : b263 (Int.toNat (.ofNat 2)) = b263_2 := rfl
theorem k263_3 : b263 (Int.toNat (.ofNat 3)) = b263_3 := rfl
theorem k263_0 : b263 (Int.toNat (.ofNat 0)) = b263_0 := rfl
theorem m264 : Call (pG L xs) pM (d + 1) 264 as h Q = ((xent as).length ≤ 2 ∧ Ev (pG L xs) pM d b264 (some FieldType.int) Q b264_0 (xentry as 2) [] h) := rfl
theorem n264 : (pG L xs).2.1 264 = 2 := rfl
theorem m265 : Call (pG L xs) pM (d + 1) 265 as h Q = ((xent as).length ≤ 3 ∧ Ev (pG L xs) pM d b265 (some FieldType.boolean) Q b265_0 (xentry as 3) [] h) := rfl
theorem n265 : (pG L xs).2.1 265 = 2 := rfl
theorem c265 : (pG L xs).2.2.1 265 = 12 := rfl
theorem k265_1 : b265 (Int.toNat (.ofNat 1)) = b265_1 := rfl
theorem k265_2 : b265 (Int.toNat (.ofNat 2)) = b265_2 := rfl
theorem k265_3 : b265 (Int.toNat (.ofNat 3)) = b265_3 := rfl
theorem k265_0 : b265 (Int.toNat (.ofNat 0)) = b265_0 := rfl
theorem m266 : Call (pG L xs) pM (d + 1) 266 as h Q = ((xent as).length ≤ 4 ∧ Ev (pG L xs) pM d b266 (none) Q b266_0 (xentry as 4) [] h) := rfl
theorem n266 : (pG L xs).2.1 266 = 1 := rfl
theorem c266 : (pG L xs).2.2.1 266 = 12 := rfl
theorem k266_1 : b266 (Int.toNat (.ofNat 1)) = b266_1 := rfl
theorem k266_2 : b266 (Int.toNat (.ofNat 2)) = b266_2 := rfl
theorem k266_3 : b266 (Int.toNat (.ofNat 3)) = b266_3 := rfl
theorem k266_4 : b266 (Int.toNat (.ofNat 4)) = b266_4 := rfl
theorem k266_0 : b266 (Int.toNat (.ofNat 0)) = b266_0 := rfl
theorem m267 : Call (pG L xs) pM (d + 1) 267 as h Q = ((xent as).length ≤ 5 ∧ Ev (pG L xs) pM d b267 (some FieldType.int) Q b267_0 (xentry as 5) [] h) := rfl
theorem n267 : (pG L xs).2.1 267 = 2 := rfl
theorem c267 : (pG L xs).2.2.1 267 = 12 := rfl
theorem k267_1 : b267 (Int.toNat (.ofNat 1)) = b267_1 := rfl
theorem k267_2 : b267 (Int.toNat (.ofNat 2)) = b267_2 := rfl
theorem k267_3 : b267 (Int.toNat (.ofNat 3)) = b267_3 := rfl
theorem k267_4 : b267 (Int.toNat (.ofNat 4)) = b267_4 := rfl
theorem k267_5 : b267 (Int.toNat (.ofNat 5)) = b267_5 := rfl
theorem k267_6 : b267 (Int.toNat (.ofNat 6)) = b267_6 := rfl
theorem k267_7 : b267 (Int.toNat (.ofNat 7)) = b267_7 := rfl
theorem k267_8 : b267 (Int.toNat (.ofNat 8)) = b267_8 := rfl
theorem k267_0 : b267 (Int.toNat (.ofNat 0)) = b267_0 := rfl
theorem m268 : Call (pG L xs) pM (d + 1) 268 as h Q = ((xent as).length ≤ 6 ∧ Ev (pG L xs) pM d b268 (some FieldType.int) Q b268_0 (xentry as 6) [] h) := rfl
theorem n268 : (pG L xs).2.1 268 = 2 := rfl
theorem c268 : (pG L xs).2.2.1 268 = 12 := rfl
theorem k268_1 : b268 (Int.toNat (.ofNat 1)) = b268_1 := rfl
theorem k268_2 : b268 (Int.toNat (.ofNat 2)) = b268_2 := rfl
theorem k268_3 : b268 (Int.toNat (.ofNat 3)) = b268_3 := rfl
theorem k268_4 : b268 (Int.toNat (.ofNat 4)) = b268_4 := rfl
theorem k268_5 : b268 (Int.toNat (.ofNat 5)) = b268_5 := rfl
theorem k268_6 : b268 (Int.toNat (.ofNat 6)) = b268_6 := rfl
theorem k268_7 : b268 (Int.toNat (.ofNat 7)) = b268_7 := rfl
theorem k268_8 : b268 (Int.toNat (.ofNat 8)) = b268_8 := rfl
theorem k268_0 : b268 (Int.toNat (.ofNat 0)) = b268_0 := rfl
theorem m269 : Call (pG L xs) pM (d + 1) 269 as h Q = ((xent as).length ≤ 4 ∧ Ev (pG L xs) pM d b269 (some FieldType.int) Q b269_0 (xentry as 4) [] h) := rfl
theorem n269 : (pG L xs).2.1 269 = 2 := rfl
theorem c269 : (pG L xs).2.2.1 269 = 12 := rfl
theorem k269_1 : b269 (Int.toNat (.ofNat 1)) = b269_1 := rfl
theorem k269_2 : b269 (Int.toNat (.ofNat 2)) = b269_2 := rfl
theorem k269_3 : b269 (Int.toNat (.ofNat 3)) = b269_3 := rfl
theorem k269_4 : b269 (Int.toNat (.ofNat 4)) = b269_4 := rfl
theorem k269_5 : b269 (Int.toNat (.ofNat 5)) = b269_5 := rfl
theorem k269_6 : b269 (Int.toNat (.ofNat 6)) = b269_6 := rfl
theorem k269_7 : b269 (Int.toNat (.ofNat 7)) = b269_7 := rfl
theorem k269_8 : b269 (Int.toNat (.ofNat 8)) = b269_8 := rfl
theorem k269_0 : b269 (Int.toNat (.ofNat 0)) = b269_0 := rfl
theorem m270 : Call (pG L xs) pM (d + 1) 270 as h Q = ((xent as).length ≤ 3 ∧ Ev (pG L xs) pM d b270 (some FieldType.int) Q b270_0 (xentry as 3) [] h) := rfl
theorem n270 : (pG L xs).2.1 270 = 2 := rfl
theorem c270 : (pG L xs).2.2.1 270 = 12 := rfl
theorem k270_1 : b270 (Int.toNat (.ofNat 1)) = b270_1 := rfl
theorem m271 : Call (pG L xs) pM (d + 1) 271 as h Q = ((xent as).length ≤ 2 ∧ Ev (pG L xs) pM d b271 (some FieldType.int) Q b271_0 (xentry as 2) [] h) := rfl
theorem n271 : (pG L xs).2.1 271 = 2 := rfl
theorem c271 : (pG L xs).2.2.1 271 = 12 := rfl
theorem m272 : Call (pG L xs) pM (d + 1) 272 as h Q = ((xent as).length ≤ 10 ∧ Ev (pG L xs) pM d b272 (some FieldType.int) Q b272_0 (xentry as 10) [] h) := rfl
theorem n272 : (pG L xs).2.1 272 = 5 := rfl
theorem c272 : (pG L xs).2.2.1 272 = 12 := rfl
theorem k272_1 : b272 (Int.toNat (.ofNat 1)) = b272_1 := rfl
theorem k272_2 : b272 (Int.toNat (.ofNat 2)) = b272_2 := rfl
theorem k272_3 : b272 (Int.toNat (.ofNat 3)) = b272_3 := rfl
theorem k272_4 : b272 (Int.toNat (.ofNat 4)) = b272_4 := rfl
theorem k272_5 : b272 (Int.toNat (.ofNat 5)) = b272_5 := rfl
theorem k272_6 : b272 (Int.toNat (.ofNat 6)) = b272_6 := rfl
theorem k272_7 : b272 (Int.toNat (.ofNat 7)) = b272_7 := rfl
theorem k272_8 : b272 (Int.toNat (.ofNat 8)) = b272_8 := rfl
theorem k272_9 : b272 (Int.toNat (.ofNat 9)) = b272_9 := rfl
theorem k272_0 : b272 (Int.toNat (.ofNat 0)) = b272_0 := rfl
theorem m273 : Call (pG L xs) pM (d + 1) 273 as h Q = ((xent as).length ≤ 2 ∧ Ev (pG L xs) pM d b273 (some FieldType.int) Q b273_0 (xentry as 2) [] h) := rfl
theorem n273 : (pG L xs).2.1 273 = 2 := rfl
theorem c273 : (pG L xs).2.2.1 273 = 12 := rfl
theorem k273_1 : b273 (Int.toNat (.ofNat 1)) = b273_1 := rfl
theorem k273_2 : b273 (Int.toNat (.ofNat 2)) = b273_2 := rfl
theorem k273_3 : b273 (Int.toNat (.ofNat 3)) = b273_3 := rfl
theorem k273_4 : b273 (Int.toNat (.ofNat 4)) = b273_4 := rfl
theorem k273_5 : b273 (Int.toNat (.ofNat 5)) = b273_5 := rfl
theorem k273_6 : b273 (Int.toNat (.ofNat 6)) = b273_6 := rfl
theorem k273_7 : b273 (Int.toNat (.ofNat 7)) = b273_7 := rfl
theorem k273_8 : b273 (Int.toNat (.ofNat 8)) = b273_8 := rfl
theorem k273_9 : b273 (Int.toNat (.ofNat 9)) = b273_9 := rfl
theorem k273_10 : b273 (Int.toNat (.ofNat 10)) = b273_10 := rfl
theorem k273_11 : b273 (Int.toNat (.ofNat 11)) = b273_11 := rfl
theorem k273_12 : b273 (Int.toNat (.ofNat 12)) = b273_12 := rfl
theorem m274 : Call (pG L xs) pM (d + 1) 274 as h Q = ((xent as).length ≤ 3 ∧ Ev (pG L xs) pM d b274 (some FieldType.int) Q b274_0 (xentry as 3) [] h) := rfl
theorem n274 : (pG L xs).2.1 274 = 2 := rfl
theorem c274 : (pG L xs).2.2.1 274 = 12 := rfl
theorem k274_1 : b274 (Int.toNat (.ofNat 1)) = b274_1 := rfl
theorem k274_2 : b274 (Int.toNat (.ofNat 2)) = b274_2 := rfl
theorem k274_3 : b274 (Int.toNat (.ofNat 3)) = b274_3 := rfl
theorem k274_0 : b274 (Int.toNat (.ofNat 0)) = b274_0 := rfl
theorem m275 : Call (pG L xs) pM (d + 1) 275 as h Q = ((xent as).length ≤ 3 ∧ Ev (pG L xs) pM d b275 (some FieldType.int) Q b275_0 (xentry as 3) [] h) := rfl
theorem n275 : (pG L xs).2.1 275 = 2 := rfl
theorem c275 : (pG L xs).2.2.1 275 = 12 := rfl
theorem k275_1 : b275 (Int.toNat (.ofNat 1)) = b275_1 := rfl
theorem k275_2 : b275 (Int.toNat (.ofNat 2)) = b275_2 := rfl
theorem k275_3 : b275 (Int.toNat (.ofNat 3)) = b275_3 := rfl
theorem k275_4 : b275 (Int.toNat (.ofNat 4)) = b275_4 := rfl
theorem k275_0 : b275 (Int.toNat (.ofNat 0)) = b275_0 := rfl
theorem m276 : Call (pG L xs) pM (d + 1) 276 as h Q = ((xent as).length ≤ 1 ∧ Ev (pG L xs) pM d b276 (some FieldType.int) Q b276_0 (xentry as 1) [] h) := rfl
theorem n276 : (pG L xs).2.1 276 = 1 := rfl
theorem m277 : Call (pG L xs) pM (d + 1) 277 as h Q = ((xent as).length ≤ 2 ∧ Ev (pG L xs) pM d b277 (some FieldType.int) Q b277_0 (xentry as 2) [] h) := rfl
theorem n277 : (pG L xs).2.1 277 = 2 := rfl
theorem k277_1 : b277 (Int.toNat (.ofNat 1)) = b277_1 := rfl
theorem k277_2 : b277 (Int.toNat (.ofNat 2)) = b277_2 := rfl
theorem m278 : Call (pG L xs) pM (d + 1) 278 as h Q = ((xent as).length ≤ 4 ∧ Ev (pG L xs) pM d b278 (some FieldType.long) Q b278_0 (xentry as 4) [] h) := rfl
theorem n278 : (pG L xs).2.1 278 = 2 := rfl
theorem k278_1 : b278 (Int.toNat (.ofNat 1)) = b278_1 := rfl
theorem k278_2 : b278 (Int.toNat (.ofNat 2)) = b278_2 := rfl
theorem m279 : Call (pG L xs) pM (d + 1) 279 as h Q = ((xent as).length ≤ 2 ∧ Ev (pG L xs) pM d b279 (some FieldType.int) Q b279_0 (xentry as 2) [] h) := rfl
theorem n279 : (pG L xs).2.1 279 = 2 := rfl
theorem k279_1 : b279 (Int.toNat (.ofNat 1)) = b279_1 := rfl
theorem k279_2 : b279 (Int.toNat (.ofNat 2)) = b279_2 := rfl
theorem m280 : Call (pG L xs) pM (d + 1) 280 as h Q = ((xent as).length ≤ 4 ∧ Ev (pG L xs) pM d b280 (none) Q b280_0 (xentry as 4) [] h) := rfl
theorem n280 : (pG L xs).2.1 280 = 2 := rfl
theorem k280_1 : b280 (Int.toNat (.ofNat 1)) = b280_1 := rfl
theorem k280_2 : b280 (Int.toNat (.ofNat 2)) = b280_2 := rfl
theorem k280_0 : b280 (Int.toNat (.ofNat 0)) = b280_0 := rfl
theorem m281 : Call (pG L xs) pM (d + 1) 281 as h Q = ((xent as).length ≤ 3 ∧ Ev (pG L xs) pM d b281 (some (FieldType.array FieldType.int)) Q b281_0 (xentry as 3) [] h) := rfl
theorem n281 : (pG L xs).2.1 281 = 2 := rfl
theorem k281_1 : b281 (Int.toNat (.ofNat 1)) = b281_1 := rfl
theorem k281_0 : b281 (Int.toNat (.ofNat 0)) = b281_0 := rfl
end MT
