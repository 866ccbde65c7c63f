def b0_0 : List Instr := [.aload 0, .monitorenter, .aload 0, .iconst (.ofNat 12), .newarray .long, .fstore 0, .aload 0, .iconst (.ofNat 6), .newarray .int, .fstore 1, .return_]
-- X0_init
def b0 : Nat → List Instr := fun t => [b0_0].getD t []
def q0 : Nat → Nat := fun t => [0].getD t 0
def b1_0 : List Instr := [.aload 1, .getfield 645, .istore 3, .iconst (.ofNat 0), .istore 4, .jsr (.ofNat 1)]
def b1_1 : List Instr := [.iload 4, .aload 1, .getfield 643, .if_icmp .ge (.ofNat 5), .aload 0, .fload 1, .iload 4, .iconst (.negSucc 0), .iastore, .aload 1, .iload 4, .invokevirtual 102, .ifCond .ne (.ofNat 4), .aload 2, .ifnonnull (.ofNat 2), .aload 0, .aload 1, .iload 4, .invokevirtual 4, .goto (.ofNat 3)]
def b1_2 : List Instr := [.aload 0, .aload 1, .iload 4, .aload 2, .invokevirtual 5, .jsr (.ofNat 3)]
def b1_3 : List Instr := [.istore 5, .aload 0, .fload 1, .iload 4, .iload 5, .iastore, .iload 5, .iconst (.negSucc 0), .if_icmp .eq (.ofNat 4), .aload 1, .iload 4, .iload 5, .invokevirtual 113, .jsr (.ofNat 4)]
def b1_4 : List Instr := [.iinc 4 (.ofNat 1), .goto (.ofNat 1)]
def b1_5 : List Instr := [.aload 1, .dup, .getfield 644, .iconst (.ofNat 1), .iadd, .putfield 644, .aload 1, .getfield 645, .iload 3, .ixor, .invokestatic 276, .ireturn]
-- X0_pass
def b1 : Nat → List Instr := fun t => [b1_0, b1_1, b1_2, b1_3, b1_4, b1_5].getD t []
def q1 : Nat → Nat := fun t => [0, 8, 48, 56, 81, 87].getD t 0
def b2_0 : List Instr := [.iconst (.ofNat 0), .istore 4, .iconst (.ofNat 0), .istore 5, .jsr (.ofNat 1)]
def b2_1 : List Instr := [.iload 5, .iload 3, .if_icmp .ge (.ofNat 2), .iload 4, .ifCond .ne (.ofNat 2), .aload 0, .aload 0, .aload 1, .aload 2, .invokevirtual 1, .aload 2, .invokevirtual 3, .istore 4, .iinc 5 (.ofNat 1), .goto (.ofNat 1)]
def b2_2 : List Instr := [.return_]
-- X0_passMany
def b2 : Nat → List Instr := fun t => [b2_0, b2_1, b2_2].getD t []
def q2 : Nat → Nat := fun t => [0, 6, 36].getD t 0
def b3_0 : List Instr := [.iload 1, .ifCond .ne (.ofNat 2), .aload 2, .ifnull (.ofNat 1), .aload 2, .getfield 322, .ifCond .ne (.ofNat 2), .jsr (.ofNat 1)]
def b3_1 : List Instr := [.iconst (.ofNat 1), .goto (.ofNat 3)]
def b3_2 : List Instr := [.iconst (.ofNat 0), .jsr (.ofNat 3)]
def b3_3 : List Instr := [.ireturn]
-- X0_isStill
def b3 : Nat → List Instr := fun t => [b3_0, b3_1, b3_2, b3_3].getD t []
def q3 : Nat → Nat := fun t => [0, 15, 19, 20].getD t 0
def b4_0 : List Instr := [.aload 1, .iload 2, .iload 2, .invokevirtual 111, .ifCond .eq (.ofNat 1), .iload 2, .ireturn]
def b4_1 : List Instr := [.iconst (.negSucc 0), .istore 3, .iconst (.ofNat 0), .istore 4, .jsr (.ofNat 2)]
def b4_2 : List Instr := [.iload 4, .aload 1, .getfield 643, .if_icmp .ge (.ofNat 5), .iload 4, .iload 2, .if_icmp .eq (.ofNat 4), .aload 1, .iload 2, .iload 4, .invokevirtual 111, .ifCond .eq (.ofNat 4), .iload 3, .iconst (.negSucc 0), .if_icmp .eq (.ofNat 3), .aload 1, .iload 4, .invokevirtual 105, .aload 1, .iload 3, .invokevirtual 105, .if_icmp .ge (.ofNat 4), .jsr (.ofNat 3)]
def b4_3 : List Instr := [.iload 4, .istore 3, .jsr (.ofNat 4)]
def b4_4 : List Instr := [.iinc 4 (.ofNat 1), .goto (.ofNat 2)]
def b4_5 : List Instr := [.iload 3, .ireturn]
-- X0_plainChoice
def b4 : Nat → List Instr := fun t => [b4_0, b4_1, b4_2, b4_3, b4_4, b4_5].getD t []
def q4 : Nat → Nat := fun t => [0, 11, 16, 60, 63, 69].getD t 0
def b5_0 : List Instr := [.iconst (.negSucc 0), .istore 4, .sipush (.ofNat 0), .lstore 5, .aload 0, .aload 1, .iload 2, .invokevirtual 6, .aload 1, .iload 2, .iload 2, .invokevirtual 111, .ifCond .eq (.ofNat 3), .aload 0, .aload 1, .iload 2, .iload 2, .invokevirtual 7, .sipush (.ofNat 0), .aload 3, .aload 0, .fload 0, .invokevirtual 43, .invokestatic 278, .lstore 5, .lload 5, .sipush (.ofNat 0), .lcmp, .ifCond .le (.ofNat 1), .iload 2, .goto (.ofNat 2)]
def b5_1 : List Instr := [.iconst (.negSucc 0), .jsr (.ofNat 2)]
def b5_2 : List Instr := [.istore 4, .jsr (.ofNat 3)]
def b5_3 : List Instr := [.iconst (.ofNat 0), .istore 7, .jsr (.ofNat 4)]
def b5_4 : List Instr := [.iload 7, .aload 1, .getfield 643, .if_icmp .ge (.ofNat 6), .iload 7, .iload 2, .if_icmp .eq (.ofNat 5), .aload 1, .iload 2, .iload 7, .invokevirtual 111, .ifCond .eq (.ofNat 5), .aload 0, .aload 1, .iload 2, .iload 7, .invokevirtual 7, .aload 3, .aload 0, .fload 0, .invokevirtual 43, .lstore 8, .lload 8, .lload 5, .lcmp, .ifCond .le (.ofNat 5), .lload 8, .lstore 5, .iload 7, .istore 4, .jsr (.ofNat 5)]
def b5_5 : List Instr := [.iinc 7 (.ofNat 1), .goto (.ofNat 4)]
def b5_6 : List Instr := [.iload 4, .ireturn]
-- X0_ruledChoice
def b5 : Nat → List Instr := fun t => [b5_0, b5_1, b5_2, b5_3, b5_4, b5_5, b5_6].getD t []
def q5 : Nat → Nat := fun t => [0, 53, 54, 56, 59, 118, 124].getD t 0
def b6_0 : List Instr := [.aload 1, .getfield 645, .invokestatic 276, .istore 3, .aload 0, .fload 0, .iconst (.ofNat 0), .iload 2, .i2l, .lastore, .aload 0, .fload 0, .iconst (.ofNat 4), .aload 1, .iload 2, .invokevirtual 103, .i2l, .lastore, .aload 0, .fload 0, .iconst (.ofNat 5), .aload 1, .iload 2, .invokevirtual 104, .i2l, .lastore, .aload 0, .fload 0, .iconst (.ofNat 8), .aload 1, .iload 2, .iload 2, .invokevirtual 107, .i2l, .lastore, .aload 0, .fload 0, .iconst (.ofNat 9), .aload 1, .getfield 643, .iload 3, .isub, .i2l, .lastore, .aload 0, .fload 0, .iconst (.ofNat 10), .iload 3, .i2l, .lastore, .aload 0, .fload 0, .iconst (.ofNat 11), .aload 1, .getfield 644, .i2l, .lastore, .return_]
-- X0_tellPerson
def b6 : Nat → List Instr := fun t => [b6_0].getD t []
def q6 : Nat → Nat := fun t => [0].getD t 0
def b7_0 : List Instr := [.aload 0, .fload 0, .iconst (.ofNat 1), .iload 3, .i2l, .lastore, .aload 0, .fload 0, .iconst (.ofNat 2), .iload 3, .iload 2, .if_icmp .ne (.ofNat 1), .sipush (.ofNat 1), .goto (.ofNat 2)]
def b7_1 : List Instr := [.sipush (.ofNat 0), .jsr (.ofNat 2)]
def b7_2 : List Instr := [.lastore, .aload 0, .fload 0, .iconst (.ofNat 3), .aload 1, .iload 2, .iload 3, .invokevirtual 109, .i2l, .lastore, .aload 0, .fload 0, .iconst (.ofNat 6), .iload 3, .iload 2, .if_icmp .ne (.ofNat 3), .sipush (.ofNat 0), .goto (.ofNat 4)]
def b7_3 : List Instr := [.aload 1, .iload 3, .invokevirtual 105, .i2l, .jsr (.ofNat 4)]
def b7_4 : List Instr := [.lastore, .aload 0, .fload 0, .iconst (.ofNat 7), .aload 1, .iload 2, .iload 3, .invokevirtual 107, .i2l, .lastore, .return_]
-- X0_tellOther
def b7 : Nat → List Instr := fun t => [b7_0, b7_1, b7_2, b7_3, b7_4].getD t []
def q7 : Nat → Nat := fun t => [0, 22, 23, 52, 58].getD t 0
def b8_0 : List Instr := [.aload 0, .monitorenter, .aload 0, .new 10, .dup, .invokespecial 96, .fstore 64, .aload 0, .iconst (.ofNat 3), .newarray .int, .fstore 65, .return_]
-- X1_init
def b8 : Nat → List Instr := fun t => [b8_0].getD t []
def q8 : Nat → Nat := fun t => [0].getD t 0
def b9_0 : List Instr := [.aload 0, .iconst (.ofNat 0), .putfield 66, .aload 1, .invokevirtual 71, .iconst (.ofNat 0), .istore 2, .jsr (.ofNat 1)]
def b9_1 : List Instr := [.iload 2, .iconst (.ofNat 40), .if_icmp .gt (.ofNat 4), .aload 1, .invokevirtual 72, .aload 0, .aload 1, .iload 2, .invokevirtual 10, .aload 0, .getfield 66, .ifCond .ne (.ofNat 2), .aload 1, .getfield 514, .iconst (.ofNat 256), .if_icmp .ne (.ofNat 3), .jsr (.ofNat 2)]
def b9_2 : List Instr := [.aload 0, .getfield 66, .ireturn]
def b9_3 : List Instr := [.iinc 2 (.ofNat 1), .goto (.ofNat 1)]
def b9_4 : List Instr := [.aload 0, .getfield 66, .ireturn]
-- X1_read
def b9 : Nat → List Instr := fun t => [b9_0, b9_1, b9_2, b9_3, b9_4].getD t []
def q9 : Nat → Nat := fun t => [0, 11, 44, 49, 55].getD t 0
def b10_0 : List Instr := [.aload 1, .ldc 1, .invokevirtual 77, .istore 3, .iload 3, .iconst (.negSucc 0), .if_icmp .ne (.ofNat 1), .aload 0, .aload 1, .iconst (.ofNat 0), .invokevirtual 80, .putfield 66, .return_]
def b10_1 : List Instr := [.iload 2, .ifCond .ne (.ofNat 2), .iconst (.ofNat 1), .goto (.ofNat 3)]
def b10_2 : List Instr := [.iconst (.ofNat 0), .jsr (.ofNat 3)]
def b10_3 : List Instr := [.iload 3, .ifCond .ne (.ofNat 4), .iconst (.ofNat 1), .goto (.ofNat 5)]
def b10_4 : List Instr := [.iconst (.ofNat 0), .jsr (.ofNat 5)]
def b10_5 : List Instr := [.if_icmp .eq (.ofNat 6), .iconst (.ofNat 1), .goto (.ofNat 7)]
def b10_6 : List Instr := [.iconst (.ofNat 0), .jsr (.ofNat 7)]
def b10_7 : List Instr := [.istore 4, .iload 2, .iconst (.ofNat 40), .if_icmp .ge (.ofNat 8), .iload 3, .iconst (.ofNat 1), .if_icmp .ne (.ofNat 9), .aload 0, .fload 64, .getfield 643, .iconst (.ofNat 6), .if_icmp .lt (.ofNat 9), .jsr (.ofNat 8)]
def b10_8 : List Instr := [.iconst (.ofNat 1), .goto (.ofNat 10)]
def b10_9 : List Instr := [.iconst (.ofNat 0), .jsr (.ofNat 10)]
def b10_10 : List Instr := [.istore 5, .iload 4, .ifCond .ne (.ofNat 11), .iload 5, .ifCond .eq (.ofNat 12), .jsr (.ofNat 11)]
def b10_11 : List Instr := [.aload 0, .aload 1, .iconst (.ofNat 4), .invokevirtual 80, .putfield 66, .return_]
def b10_12 : List Instr := [.aload 0, .aload 1, .iload 3, .invokevirtual 11, .aload 0, .getfield 66, .ifCond .ne (.ofNat 13), .aload 0, .iload 3, .invokevirtual 13, .aload 1, .invokevirtual 72, .aload 1, .invokevirtual 79, .ifCond .ne (.ofNat 13), .aload 0, .aload 1, .iconst (.ofNat 0), .invokevirtual 80, .putfield 66, .jsr (.ofNat 13)]
def b10_13 : List Instr := [.return_]
-- X1_readClause
def b10 : Nat → List Instr := fun t => [b10_0, b10_1, b10_2, b10_3, b10_4, b10_5, b10_6, b10_7, b10_8, b10_9, b10_10, b10_11, b10_12, b10_13].getD t []
def q10 : Nat → Nat := fun t => [0, 22, 30, 31, 39, 40, 47, 48, 73, 77, 78, 90, 100, 138].getD t 0
def b11_0 : List Instr := [.iload 2, .ifCond .ne (.ofNat 1), .aload 0, .aload 1, .iconst (.ofNat 0), .iconst (.ofNat 60), .invokevirtual 12, .aload 0, .aload 1, .iconst (.ofNat 1), .iconst (.ofNat 5), .invokevirtual 12, .goto (.ofNat 3)]
def b11_1 : List Instr := [.iload 2, .iconst (.ofNat 1), .if_icmp .ne (.ofNat 2), .aload 0, .aload 1, .iconst (.ofNat 0), .iconst (.ofNat 60), .invokevirtual 12, .aload 0, .aload 1, .iconst (.ofNat 1), .iconst (.ofNat 99), .invokevirtual 12, .aload 0, .aload 1, .iconst (.ofNat 2), .iconst (.ofNat 9), .invokevirtual 12, .goto (.ofNat 3)]
def b11_2 : List Instr := [.aload 0, .aload 1, .iconst (.ofNat 0), .aload 0, .fload 64, .getfield 643, .iconst (.ofNat 1), .isub, .invokevirtual 12, .aload 0, .aload 1, .iconst (.ofNat 1), .aload 0, .fload 64, .getfield 643, .iconst (.ofNat 1), .isub, .invokevirtual 12, .aload 0, .aload 1, .iconst (.ofNat 2), .iconst (.ofNat 20), .invokevirtual 12, .jsr (.ofNat 3)]
def b11_3 : List Instr := [.return_]
-- X1_readNumbers
def b11 : Nat → List Instr := fun t => [b11_0, b11_1, b11_2, b11_3].getD t []
def q11 : Nat → Nat := fun t => [0, 22, 54, 92].getD t 0
def b12_0 : List Instr := [.aload 0, .getfield 66, .ifCond .eq (.ofNat 1), .return_]
def b12_1 : List Instr := [.aload 1, .invokevirtual 72, .aload 1, .getfield 514, .iconst (.ofNat 258), .if_icmp .eq (.ofNat 2), .aload 0, .aload 1, .iconst (.ofNat 0), .invokevirtual 80, .putfield 66, .goto (.ofNat 5)]
def b12_2 : List Instr := [.aload 1, .getfield 515, .iconst (.negSucc 0), .if_icmp .eq (.ofNat 3), .aload 1, .getfield 515, .iload 3, .if_icmp .le (.ofNat 4), .jsr (.ofNat 3)]
def b12_3 : List Instr := [.aload 0, .aload 1, .iconst (.ofNat 1), .invokevirtual 80, .putfield 66, .goto (.ofNat 5)]
def b12_4 : List Instr := [.aload 0, .fload 65, .iload 2, .aload 1, .getfield 515, .iastore, .jsr (.ofNat 5)]
def b12_5 : List Instr := [.return_]
-- X1_readNumber
def b12 : Nat → List Instr := fun t => [b12_0, b12_1, b12_2, b12_3, b12_4, b12_5].getD t []
def q12 : Nat → Nat := fun t => [0, 8, 34, 50, 62, 72].getD t 0
def b13_0 : List Instr := [.iload 1, .ifCond .ne (.ofNat 1), .aload 0, .fload 64, .aload 0, .fload 65, .iconst (.ofNat 0), .iaload, .aload 0, .fload 65, .iconst (.ofNat 1), .iaload, .invokevirtual 98, .goto (.ofNat 3)]
def b13_1 : List Instr := [.iload 1, .iconst (.ofNat 1), .if_icmp .ne (.ofNat 2), .aload 0, .fload 64, .aload 0, .fload 65, .iconst (.ofNat 0), .iaload, .aload 0, .fload 65, .iconst (.ofNat 1), .iaload, .aload 0, .fload 65, .iconst (.ofNat 2), .iaload, .invokevirtual 99, .goto (.ofNat 3)]
def b13_2 : List Instr := [.aload 0, .fload 64, .aload 0, .fload 65, .iconst (.ofNat 0), .iaload, .aload 0, .fload 65, .iconst (.ofNat 1), .iaload, .aload 0, .fload 65, .iconst (.ofNat 2), .iaload, .invokevirtual 108, .jsr (.ofNat 3)]
def b13_3 : List Instr := [.return_]
-- X1_tell
def b13 : Nat → List Instr := fun t => [b13_0, b13_1, b13_2, b13_3].getD t []
def q13 : Nat → Nat := fun t => [0, 26, 59, 84].getD t 0
def b14_0 : List Instr := [.aload 0, .monitorenter, .aload 0, .new 10, .dup, .invokespecial 96, .fstore 128, .aload 0, .new 0, .dup, .invokespecial 0, .fstore 129, .aload 0, .iconst (.ofNat 7), .iconst (.ofNat 61), .multianewarray 0 2, .fstore 130, .aload 0, .iconst (.ofNat 7), .newarray .boolean, .fstore 131, .return_]
-- X2_init
def b14 : Nat → List Instr := fun t => [b14_0].getD t []
def q14 : Nat → Nat := fun t => [0].getD t 0
def b15_0 : List Instr := [.aload 0, .iload 3, .aload 2, .arraylength, .invokestatic 279, .iconst (.ofNat 1), .iadd, .putfield 132, .aload 0, .aload 0, .getfield 132, .iconst (.ofNat 7), .invokestatic 279, .putfield 132, .iconst (.ofNat 0), .istore 4, .jsr (.ofNat 1)]
def b15_1 : List Instr := [.iload 4, .aload 0, .getfield 132, .if_icmp .ge (.ofNat 4), .aload 0, .fload 128, .aload 1, .fload 449, .invokevirtual 97, .aload 0, .iload 4, .ifCond .ne (.ofNat 2), .aconst_null, .goto (.ofNat 3)]
def b15_2 : List Instr := [.aload 2, .iload 4, .iconst (.ofNat 1), .isub, .aaload, .jsr (.ofNat 3)]
def b15_3 : List Instr := [.aload 0, .fload 130, .iload 4, .aaload, .invokevirtual 16, .aload 0, .fload 131, .iload 4, .aload 1, .aload 0, .fload 130, .iload 4, .aaload, .invokestatic 17, .bastore, .iinc 4 (.ofNat 1), .goto (.ofNat 1)]
def b15_4 : List Instr := [.return_]
-- X2_weigh
def b15 : Nat → List Instr := fun t => [b15_0, b15_1, b15_2, b15_3, b15_4].getD t []
def q15 : Nat → Nat := fun t => [0, 28, 58, 64, 98].getD t 0
def b16_0 : List Instr := [.iconst (.ofNat 0), .istore 3, .iconst (.ofNat 0), .istore 4, .jsr (.ofNat 1)]
def b16_1 : List Instr := [.iload 4, .iconst (.ofNat 60), .if_icmp .gt (.ofNat 3), .iload 3, .ifCond .ne (.ofNat 2), .aload 0, .fload 129, .aload 0, .fload 129, .aload 0, .fload 128, .aload 1, .invokevirtual 1, .aload 1, .invokevirtual 3, .istore 3, .jsr (.ofNat 2)]
def b16_2 : List Instr := [.aload 2, .iload 4, .aload 0, .fload 128, .getfield 645, .iastore, .iinc 4 (.ofNat 1), .goto (.ofNat 1)]
def b16_3 : List Instr := [.return_]
-- X2_goOn
def b16 : Nat → List Instr := fun t => [b16_0, b16_1, b16_2, b16_3].getD t []
def q16 : Nat → Nat := fun t => [0, 5, 37, 54].getD t 0
def b17_0 : List Instr := [.iconst (.ofNat 0), .istore 2, .jsr (.ofNat 1)]
def b17_1 : List Instr := [.iload 2, .aload 0, .getfield 454, .if_icmp .ge (.ofNat 3), .aload 1, .aload 0, .fload 451, .iload 2, .iaload, .iaload, .aload 0, .fload 452, .iload 2, .iaload, .ishr, .iconst (.ofNat 1), .iand, .istore 3, .iload 3, .aload 0, .fload 453, .iload 2, .iaload, .if_icmp .eq (.ofNat 2), .iconst (.ofNat 0), .ireturn]
def b17_2 : List Instr := [.iinc 2 (.ofNat 1), .goto (.ofNat 1)]
def b17_3 : List Instr := [.iconst (.ofNat 1), .ireturn]
-- X2_hasAllNotes
def b17 : Nat → List Instr := fun t => [b17_0, b17_1, b17_2, b17_3].getD t []
def q17 : Nat → Nat := fun t => [0, 2, 40, 46].getD t 0
def b18_0 : List Instr := [.iconst (.ofNat 0), .istore 1, .iconst (.ofNat 0), .istore 2, .jsr (.ofNat 1)]
def b18_1 : List Instr := [.iload 2, .aload 0, .getfield 132, .if_icmp .ge (.ofNat 4), .iload 1, .aload 0, .fload 131, .iload 2, .baload, .ifCond .eq (.ofNat 2), .iconst (.ofNat 1), .goto (.ofNat 3)]
def b18_2 : List Instr := [.iconst (.ofNat 0), .jsr (.ofNat 3)]
def b18_3 : List Instr := [.iadd, .istore 1, .iinc 2 (.ofNat 1), .goto (.ofNat 1)]
def b18_4 : List Instr := [.iload 1, .ireturn]
-- X2_fitting
def b18 : Nat → List Instr := fun t => [b18_0, b18_1, b18_2, b18_3, b18_4].getD t []
def q18 : Nat → Nat := fun t => [0, 4, 26, 27, 35].getD t 0
def b19_0 : List Instr := [.iconst (.ofNat 0), .istore 1, .jsr (.ofNat 1)]
def b19_1 : List Instr := [.iload 1, .aload 0, .getfield 132, .if_icmp .ge (.ofNat 3), .aload 0, .fload 131, .iload 1, .baload, .ifCond .eq (.ofNat 2), .iload 1, .iconst (.ofNat 1), .isub, .ireturn]
def b19_2 : List Instr := [.iinc 1 (.ofNat 1), .goto (.ofNat 1)]
def b19_3 : List Instr := [.iconst (.negSucc 1), .ireturn]
-- X2_firstFitting
def b19 : Nat → List Instr := fun t => [b19_0, b19_1, b19_2, b19_3].getD t []
def q19 : Nat → Nat := fun t => [0, 2, 23, 29].getD t 0
def b20_0 : List Instr := [.aload 0, .invokevirtual 18, .ifCond .ne (.ofNat 1), .iconst (.negSucc 1), .ireturn]
def b20_1 : List Instr := [.iconst (.ofNat 0), .istore 2, .aload 0, .iconst (.ofNat 0), .invokevirtual 21, .istore 3, .iconst (.ofNat 1), .istore 4, .jsr (.ofNat 2)]
def b20_2 : List Instr := [.iload 4, .iconst (.ofNat 60), .if_icmp .gt (.ofNat 4), .aload 0, .iload 4, .invokevirtual 21, .istore 5, .iload 5, .iload 3, .if_icmp .ge (.ofNat 3), .iload 5, .istore 3, .iload 4, .istore 2, .jsr (.ofNat 3)]
def b20_3 : List Instr := [.iinc 4 (.ofNat 1), .goto (.ofNat 2)]
def b20_4 : List Instr := [.iload 1, .ifCond .ne (.ofNat 5), .iload 2, .goto (.ofNat 6)]
def b20_5 : List Instr := [.iload 3, .jsr (.ofNat 6)]
def b20_6 : List Instr := [.ireturn]
-- X2_bestLook
def b20 : Nat → List Instr := fun t => [b20_0, b20_1, b20_2, b20_3, b20_4, b20_5, b20_6].getD t []
def q20 : Nat → Nat := fun t => [0, 10, 21, 48, 54, 62, 63].getD t 0
def b21_0 : List Instr := [.iconst (.ofNat 0), .istore 2, .iconst (.ofNat 0), .istore 3, .jsr (.ofNat 1)]
def b21_1 : List Instr := [.iload 3, .aload 0, .getfield 132, .if_icmp .ge (.ofNat 6), .iconst (.ofNat 0), .istore 4, .iconst (.ofNat 0), .istore 5, .jsr (.ofNat 2)]
def b21_2 : List Instr := [.aload 0, .fload 131, .iload 3, .baload, .ifCond .eq (.ofNat 5), .iload 5, .aload 0, .getfield 132, .if_icmp .ge (.ofNat 5), .iload 4, .aload 0, .fload 131, .iload 5, .baload, .ifCond .eq (.ofNat 3), .aload 0, .fload 130, .iload 5, .aaload, .iload 1, .iaload, .aload 0, .fload 130, .iload 3, .aaload, .iload 1, .iaload, .if_icmp .ne (.ofNat 3), .iconst (.ofNat 1), .goto (.ofNat 4)]
def b21_3 : List Instr := [.iconst (.ofNat 0), .jsr (.ofNat 4)]
def b21_4 : List Instr := [.iadd, .istore 4, .iinc 5 (.ofNat 1), .goto (.ofNat 2)]
def b21_5 : List Instr := [.iload 2, .iload 4, .invokestatic 277, .istore 2, .iinc 3 (.ofNat 1), .goto (.ofNat 1)]
def b21_6 : List Instr := [.iload 2, .ireturn]
-- X2_mostAlike
def b21 : Nat → List Instr := fun t => [b21_0, b21_1, b21_2, b21_3, b21_4, b21_5, b21_6].getD t []
def q21 : Nat → Nat := fun t => [0, 4, 18, 72, 73, 82, 95].getD t 0
def b22_0 : List Instr := [.aload 0, .monitorenter, .aload 0, .iconst (.ofNat 20), .anewarray 10, .fstore 192, .iconst (.ofNat 0), .istore 1, .jsr (.ofNat 1)]
def b22_1 : List Instr := [.iload 1, .iconst (.ofNat 20), .if_icmp .ge (.ofNat 2), .aload 0, .fload 192, .iload 1, .new 10, .dup, .invokespecial 96, .aastore, .iinc 1 (.ofNat 1), .goto (.ofNat 1)]
def b22_2 : List Instr := [.return_]
-- X3_init
def b22 : Nat → List Instr := fun t => [b22_0, b22_1, b22_2].getD t []
def q22 : Nat → Nat := fun t => [0, 15, 40].getD t 0
def b23_0 : List Instr := [.aload 0, .iconst (.ofNat 0), .putfield 194, .return_]
-- X3_forget
def b23 : Nat → List Instr := fun t => [b23_0].getD t []
def q23 : Nat → Nat := fun t => [0].getD t 0
def b24_0 : List Instr := [.aload 0, .fload 192, .aload 0, .getfield 193, .aaload, .aload 1, .invokevirtual 97, .aload 0, .aload 0, .getfield 193, .iconst (.ofNat 1), .iadd, .iconst (.ofNat 20), .if_icmp .ge (.ofNat 1), .aload 0, .getfield 193, .iconst (.ofNat 1), .iadd, .goto (.ofNat 2)]
def b24_1 : List Instr := [.iconst (.ofNat 0), .jsr (.ofNat 2)]
def b24_2 : List Instr := [.putfield 193, .aload 0, .iconst (.ofNat 20), .aload 0, .getfield 194, .iconst (.ofNat 1), .iadd, .invokestatic 279, .putfield 194, .return_]
-- X3_keep
def b24 : Nat → List Instr := fun t => [b24_0, b24_1, b24_2].getD t []
def q24 : Nat → Nat := fun t => [0, 34, 35].getD t 0
def b25_0 : List Instr := [.aload 0, .getfield 194, .ifCond .le (.ofNat 3), .aload 0, .aload 0, .getfield 193, .ifCond .le (.ofNat 1), .aload 0, .getfield 193, .iconst (.ofNat 1), .isub, .goto (.ofNat 2)]
def b25_1 : List Instr := [.iconst (.ofNat 19), .jsr (.ofNat 2)]
def b25_2 : List Instr := [.putfield 193, .aload 0, .dup, .getfield 194, .iconst (.ofNat 1), .isub, .putfield 194, .aload 1, .aload 0, .fload 192, .aload 0, .getfield 193, .aaload, .invokevirtual 97, .jsr (.ofNat 3)]
def b25_3 : List Instr := [.return_]
-- X3_bringBack
def b25 : Nat → List Instr := fun t => [b25_0, b25_1, b25_2, b25_3].getD t []
def q25 : Nat → Nat := fun t => [0, 24, 26, 52].getD t 0
def b26_0 : List Instr := [.aload 0, .monitorenter, .aload 0, .iconst (.ofNat 6), .newarray .int, .fstore 258, .aload 0, .iconst (.ofNat 6), .newarray .int, .fstore 259, .aload 0, .iconst (.ofNat 21), .newarray .int, .fstore 260, .aload 0, .iconst (.ofNat 21), .newarray .int, .fstore 261, .aload 0, .iconst (.ofNat 64), .newarray .int, .fstore 263, .aload 0, .iconst (.ofNat 64), .newarray .int, .fstore 264, .return_]
-- X4_init
def b26 : Nat → List Instr := fun t => [b26_0].getD t []
def q26 : Nat → Nat := fun t => [0].getD t 0
def b27_0 : List Instr := [.aload 0, .iconst (.negSucc 0), .putfield 256, .aload 0, .iconst (.ofNat 0), .putfield 257, .aload 0, .aload 1, .iconst (.ofNat 0), .aload 1, .getfield 645, .iconst (.ofNat 0), .iconst (.ofNat 0), .invokevirtual 28, .return_]
-- X4_partBest
def b27 : Nat → List Instr := fun t => [b27_0].getD t []
def q27 : Nat → Nat := fun t => [0].getD t 0
def b28_0 : List Instr := [.iload 2, .aload 1, .getfield 643, .if_icmp .lt (.ofNat 1), .aload 0, .iload 4, .iload 5, .invokevirtual 29, .return_]
def b28_1 : List Instr := [.iload 3, .iload 2, .ishr, .iconst (.ofNat 1), .iand, .iconst (.ofNat 1), .if_icmp .ne (.ofNat 2), .aload 0, .aload 1, .iload 2, .iconst (.ofNat 1), .iadd, .iload 3, .iload 4, .iload 5, .invokevirtual 28, .return_]
def b28_2 : List Instr := [.aload 0, .fload 259, .iload 2, .iconst (.negSucc 0), .iastore, .aload 0, .aload 1, .iload 2, .iconst (.ofNat 1), .iadd, .iload 3, .iload 4, .iload 5, .invokevirtual 28, .aload 1, .iload 2, .iload 2, .invokevirtual 111, .ifCond .eq (.ofNat 3), .aload 0, .fload 259, .iload 2, .iload 2, .iastore, .aload 0, .aload 1, .iload 2, .iconst (.ofNat 1), .iadd, .iload 3, .iload 4, .iconst (.ofNat 1), .iadd, .iload 5, .invokevirtual 28, .jsr (.ofNat 3)]
def b28_3 : List Instr := [.iload 2, .iconst (.ofNat 1), .iadd, .istore 6, .jsr (.ofNat 4)]
def b28_4 : List Instr := [.iload 6, .aload 1, .getfield 643, .if_icmp .ge (.ofNat 6), .iload 3, .iload 6, .ishr, .iconst (.ofNat 1), .iand, .ifCond .ne (.ofNat 5), .aload 1, .iload 2, .iload 6, .invokevirtual 111, .ifCond .eq (.ofNat 5), .aload 0, .fload 259, .iload 2, .iload 6, .iastore, .aload 0, .fload 259, .iload 6, .iload 2, .iastore, .aload 0, .aload 1, .iload 2, .iconst (.ofNat 1), .iadd, .iload 3, .iconst (.ofNat 1), .iload 6, .ishl, .ior, .iload 4, .iconst (.ofNat 2), .iadd, .iload 5, .aload 1, .iload 6, .invokevirtual 105, .iadd, .invokevirtual 28, .jsr (.ofNat 5)]
def b28_5 : List Instr := [.iinc 6 (.ofNat 1), .goto (.ofNat 4)]
def b28_6 : List Instr := [.return_]
-- X4_partFrom
def b28 : Nat → List Instr := fun t => [b28_0, b28_1, b28_2, b28_3, b28_4, b28_5, b28_6].getD t []
def q28 : Nat → Nat := fun t => [0, 17, 40, 91, 96, 167, 173].getD t 0
def b29_0 : List Instr := [.iload 1, .aload 0, .getfield 256, .if_icmp .gt (.ofNat 1), .iload 1, .aload 0, .getfield 256, .if_icmp .ne (.ofNat 2), .iload 2, .aload 0, .getfield 257, .if_icmp .ge (.ofNat 2), .jsr (.ofNat 1)]
def b29_1 : List Instr := [.aload 0, .iload 1, .putfield 256, .aload 0, .iload 2, .putfield 257, .aload 0, .fload 259, .iconst (.ofNat 0), .aload 0, .fload 258, .iconst (.ofNat 0), .iconst (.ofNat 6), .caload, .jsr (.ofNat 2)]
def b29_2 : List Instr := [.return_]
-- X4_weighParting
def b29 : Nat → List Instr := fun t => [b29_0, b29_1, b29_2].getD t []
def q29 : Nat → Nat := fun t => [0, 24, 49].getD t 0
def b30_0 : List Instr := [.aload 0, .aload 1, .invokevirtual 32, .aload 0, .aload 1, .invokevirtual 101, .invokevirtual 36, .aload 1, .getfield 645, .aload 1, .invokevirtual 101, .iand, .istore 3, .aload 0, .fload 263, .iload 3, .iaload, .iconst (.negSucc 0), .if_icmp .ne (.ofNat 1), .iconst (.negSucc 1), .ireturn]
def b30_1 : List Instr := [.iload 2, .ifCond .ne (.ofNat 2), .aload 0, .fload 263, .iload 3, .iaload, .ireturn]
def b30_2 : List Instr := [.aload 0, .fload 263, .iload 3, .iaload, .ifCond .ne (.ofNat 3), .iconst (.negSucc 0), .goto (.ofNat 4)]
def b30_3 : List Instr := [.aload 0, .iload 3, .iload 2, .invokevirtual 31, .jsr (.ofNat 4)]
def b30_4 : List Instr := [.ireturn]
-- X4_fewestGoings
def b30 : Nat → List Instr := fun t => [b30_0, b30_1, b30_2, b30_3, b30_4].getD t []
def q30 : Nat → Nat := fun t => [0, 36, 47, 60, 66].getD t 0
def b31_0 : List Instr := [.iconst (.ofNat 0), .istore 3, .jsr (.ofNat 1)]
def b31_1 : List Instr := [.iload 3, .aload 0, .getfield 262, .if_icmp .ge (.ofNat 5), .aload 0, .iload 1, .iload 3, .invokevirtual 35, .ifCond .eq (.ofNat 4), .aload 0, .fload 263, .iload 1, .aload 0, .iload 3, .invokevirtual 34, .ixor, .iaload, .aload 0, .fload 263, .iload 1, .iaload, .iconst (.ofNat 1), .isub, .if_icmp .ne (.ofNat 4), .iload 2, .iconst (.ofNat 1), .if_icmp .ne (.ofNat 2), .aload 0, .fload 260, .iload 3, .iaload, .goto (.ofNat 3)]
def b31_2 : List Instr := [.aload 0, .fload 261, .iload 3, .iaload, .jsr (.ofNat 3)]
def b31_3 : List Instr := [.ireturn]
def b31_4 : List Instr := [.iinc 3 (.ofNat 1), .goto (.ofNat 1)]
def b31_5 : List Instr := [.iconst (.negSucc 0), .ireturn]
-- X4_firstGoing
def b31 : Nat → List Instr := fun t => [b31_0, b31_1, b31_2, b31_3, b31_4, b31_5].getD t []
def q31 : Nat → Nat := fun t => [0, 2, 56, 62, 63, 69].getD t 0
def b32_0 : List Instr := [.aload 0, .iconst (.ofNat 0), .putfield 262, .iconst (.ofNat 0), .istore 2, .jsr (.ofNat 1)]
def b32_1 : List Instr := [.iload 2, .aload 1, .getfield 643, .if_icmp .ge (.ofNat 3), .aload 1, .iload 2, .iload 2, .invokevirtual 110, .ifCond .eq (.ofNat 2), .aload 0, .iload 2, .iload 2, .invokevirtual 33, .jsr (.ofNat 2)]
def b32_2 : List Instr := [.iinc 2 (.ofNat 1), .goto (.ofNat 1)]
def b32_3 : List Instr := [.iconst (.ofNat 0), .istore 2, .jsr (.ofNat 4)]
def b32_4 : List Instr := [.iload 2, .aload 1, .getfield 643, .if_icmp .ge (.ofNat 8), .iload 2, .iconst (.ofNat 1), .iadd, .istore 3, .jsr (.ofNat 5)]
def b32_5 : List Instr := [.iload 3, .aload 1, .getfield 643, .if_icmp .ge (.ofNat 7), .aload 1, .iload 2, .iload 3, .invokevirtual 110, .ifCond .eq (.ofNat 6), .aload 0, .iload 2, .iload 3, .invokevirtual 33, .jsr (.ofNat 6)]
def b32_6 : List Instr := [.iinc 3 (.ofNat 1), .goto (.ofNat 5)]
def b32_7 : List Instr := [.iinc 2 (.ofNat 1), .goto (.ofNat 4)]
def b32_8 : List Instr := [.return_]
-- X4_listGoings
def b32 : Nat → List Instr := fun t => [b32_0, b32_1, b32_2, b32_3, b32_4, b32_5, b32_6, b32_7, b32_8].getD t []
def q32 : Nat → Nat := fun t => [0, 7, 30, 36, 38, 50, 73, 79, 85].getD t 0
def b33_0 : List Instr := [.aload 0, .getfield 262, .iconst (.ofNat 21), .if_icmp .ge (.ofNat 1), .aload 0, .fload 260, .aload 0, .getfield 262, .iload 1, .iastore, .aload 0, .fload 261, .aload 0, .getfield 262, .iload 2, .iastore, .aload 0, .dup, .getfield 262, .iconst (.ofNat 1), .iadd, .putfield 262, .jsr (.ofNat 1)]
def b33_1 : List Instr := [.return_]
-- X4_addGoing
def b33 : Nat → List Instr := fun t => [b33_0, b33_1].getD t []
def q33 : Nat → Nat := fun t => [0, 39].getD t 0
def b34_0 : List Instr := [.iconst (.ofNat 1), .aload 0, .fload 260, .iload 1, .iaload, .ishl, .iconst (.ofNat 1), .aload 0, .fload 261, .iload 1, .iaload, .ishl, .ior, .ireturn]
-- X4_both
def b34 : Nat → List Instr := fun t => [b34_0].getD t []
def q34 : Nat → Nat := fun t => [0].getD t 0
def b35_0 : List Instr := [.iload 1, .aload 0, .iload 2, .invokevirtual 34, .iand, .istore 3, .iload 3, .ifCond .eq (.ofNat 1), .iload 3, .aload 0, .iload 2, .invokevirtual 34, .if_icmp .ne (.ofNat 2), .jsr (.ofNat 1)]
def b35_1 : List Instr := [.iconst (.ofNat 1), .goto (.ofNat 3)]
def b35_2 : List Instr := [.iconst (.ofNat 0), .jsr (.ofNat 3)]
def b35_3 : List Instr := [.ireturn]
-- X4_isTogether
def b35 : Nat → List Instr := fun t => [b35_0, b35_1, b35_2, b35_3].getD t []
def q35 : Nat → Nat := fun t => [0, 21, 25, 26].getD t 0
def b36_0 : List Instr := [.aload 0, .fload 263, .iconst (.negSucc 0), .invokestatic 280, .aload 0, .fload 263, .iload 1, .iconst (.ofNat 0), .iastore, .aload 0, .fload 264, .iconst (.ofNat 0), .iload 1, .iastore, .iconst (.ofNat 1), .istore 2, .iconst (.ofNat 0), .istore 3, .jsr (.ofNat 1)]
def b36_1 : List Instr := [.iload 3, .iload 2, .if_icmp .ge (.ofNat 5), .iload 3, .iconst (.ofNat 64), .if_icmp .ge (.ofNat 5), .aload 0, .fload 264, .iload 3, .iaload, .istore 4, .iconst (.ofNat 0), .istore 5, .jsr (.ofNat 2)]
def b36_2 : List Instr := [.iload 5, .aload 0, .getfield 262, .if_icmp .ge (.ofNat 4), .iload 4, .aload 0, .iload 5, .invokevirtual 34, .ixor, .istore 6, .aload 0, .iload 4, .iload 5, .invokevirtual 35, .ifCond .eq (.ofNat 3), .aload 0, .fload 263, .iload 6, .iaload, .iconst (.negSucc 0), .if_icmp .ne (.ofNat 3), .iload 2, .iconst (.ofNat 64), .if_icmp .ge (.ofNat 3), .aload 0, .fload 263, .iload 6, .aload 0, .fload 263, .iload 4, .iaload, .iconst (.ofNat 1), .iadd, .iastore, .aload 0, .fload 264, .iload 2, .iload 6, .iastore, .iinc 2 (.ofNat 1), .jsr (.ofNat 3)]
def b36_3 : List Instr := [.iinc 5 (.ofNat 1), .goto (.ofNat 2)]
def b36_4 : List Instr := [.iinc 3 (.ofNat 1), .goto (.ofNat 1)]
def b36_5 : List Instr := [.return_]
-- X4_measureFrom
def b36 : Nat → List Instr := fun t => [b36_0, b36_1, b36_2, b36_3, b36_4, b36_5].getD t []
def q36 : Nat → Nat := fun t => [0, 26, 48, 123, 129, 135].getD t 0
def b37_0 : List Instr := [.iconst (.ofNat 2), .istore 2, .jsr (.ofNat 1)]
def b37_1 : List Instr := [.iload 2, .aload 1, .getfield 643, .if_icmp .gt (.ofNat 5), .iconst (.ofNat 0), .istore 3, .jsr (.ofNat 2)]
def b37_2 : List Instr := [.iload 3, .aload 1, .getfield 643, .if_icmp .ge (.ofNat 4), .aload 1, .iload 3, .iload 3, .iconst (.ofNat 1), .iload 3, .ishl, .iload 2, .iconst (.ofNat 1), .isub, .invokestatic 38, .istore 4, .iload 4, .ifCond .eq (.ofNat 3), .iload 4, .ireturn]
def b37_3 : List Instr := [.iinc 3 (.ofNat 1), .goto (.ofNat 2)]
def b37_4 : List Instr := [.iinc 2 (.ofNat 1), .goto (.ofNat 1)]
def b37_5 : List Instr := [.iconst (.ofNat 0), .ireturn]
-- X4_shortestRing
def b37 : Nat → List Instr := fun t => [b37_0, b37_1, b37_2, b37_3, b37_4, b37_5].getD t []
def q37 : Nat → Nat := fun t => [0, 2, 12, 42, 48, 54].getD t 0
def b38_0 : List Instr := [.iload 4, .ifCond .gt (.ofNat 3), .aload 0, .iload 2, .iload 1, .invokestatic 39, .ifCond .eq (.ofNat 1), .iload 3, .goto (.ofNat 2)]
def b38_1 : List Instr := [.iconst (.ofNat 0), .jsr (.ofNat 2)]
def b38_2 : List Instr := [.ireturn]
def b38_3 : List Instr := [.iload 1, .iconst (.ofNat 1), .iadd, .istore 5, .jsr (.ofNat 4)]
def b38_4 : List Instr := [.iload 5, .aload 0, .getfield 643, .if_icmp .ge (.ofNat 6), .iload 3, .iload 5, .ishr, .iconst (.ofNat 1), .iand, .ifCond .ne (.ofNat 5), .aload 0, .iload 2, .iload 5, .invokestatic 39, .ifCond .eq (.ofNat 5), .aload 0, .iload 1, .iload 5, .iload 3, .iconst (.ofNat 1), .iload 5, .ishl, .ior, .iload 4, .iconst (.ofNat 1), .isub, .invokestatic 38, .istore 6, .iload 6, .ifCond .eq (.ofNat 5), .iload 6, .ireturn]
def b38_5 : List Instr := [.iinc 5 (.ofNat 1), .goto (.ofNat 4)]
def b38_6 : List Instr := [.iconst (.ofNat 0), .ireturn]
-- X4_ringOn
def b38 : Nat → List Instr := fun t => [b38_0, b38_1, b38_2, b38_3, b38_4, b38_5, b38_6].getD t []
def q38 : Nat → Nat := fun t => [0, 18, 19, 20, 25, 80, 86].getD t 0
def b39_0 : List Instr := [.aload 0, .iload 1, .iload 2, .invokevirtual 107, .aload 0, .iload 1, .iload 1, .invokevirtual 107, .if_icmp .ge (.ofNat 1), .iconst (.ofNat 1), .goto (.ofNat 2)]
def b39_1 : List Instr := [.iconst (.ofNat 0), .jsr (.ofNat 2)]
def b39_2 : List Instr := [.ireturn]
-- X4_looksDown
def b39 : Nat → List Instr := fun t => [b39_0, b39_1, b39_2].getD t []
def q39 : Nat → Nat := fun t => [0, 19, 20].getD t 0
def b40_0 : List Instr := [.iconst (.ofNat 0), .istore 2, .iconst (.ofNat 0), .istore 3, .jsr (.ofNat 1)]
def b40_1 : List Instr := [.iload 3, .aload 1, .getfield 643, .if_icmp .ge (.ofNat 9), .iconst (.ofNat 1), .istore 4, .iconst (.ofNat 0), .istore 5, .jsr (.ofNat 2)]
def b40_2 : List Instr := [.iload 5, .aload 1, .getfield 643, .if_icmp .ge (.ofNat 6), .iload 4, .ifCond .eq (.ofNat 4), .iload 5, .iload 3, .if_icmp .eq (.ofNat 3), .aload 1, .iload 3, .iload 5, .invokevirtual 109, .iconst (.ofNat 1), .if_icmp .gt (.ofNat 4), .jsr (.ofNat 3)]
def b40_3 : List Instr := [.iconst (.ofNat 1), .goto (.ofNat 5)]
def b40_4 : List Instr := [.iconst (.ofNat 0), .jsr (.ofNat 5)]
def b40_5 : List Instr := [.istore 4, .iinc 5 (.ofNat 1), .goto (.ofNat 2)]
def b40_6 : List Instr := [.iload 2, .iload 4, .ifCond .eq (.ofNat 7), .iconst (.ofNat 1), .iload 3, .ishl, .goto (.ofNat 8)]
def b40_7 : List Instr := [.iconst (.ofNat 0), .jsr (.ofNat 8)]
def b40_8 : List Instr := [.ior, .istore 2, .iinc 3 (.ofNat 1), .goto (.ofNat 1)]
def b40_9 : List Instr := [.iload 2, .ireturn]
-- X4_fairOnes
def b40 : Nat → List Instr := fun t => [b40_0, b40_1, b40_2, b40_3, b40_4, b40_5, b40_6, b40_7, b40_8, b40_9].getD t []
def q40 : Nat → Nat := fun t => [0, 4, 18, 49, 53, 54, 62, 74, 75, 83].getD t 0
def b41_0 : List Instr := [.aload 0, .monitorenter, .aload 0, .iconst (.ofNat 64), .newarray .long, .fstore 321, .aload 0, .aload 1, .fstore 320, .iconst (.ofNat 0), .istore 2, .iconst (.ofNat 0), .istore 3, .jsr (.ofNat 1)]
def b41_1 : List Instr := [.iload 3, .aload 1, .arraylength, .if_icmp .ge (.ofNat 5), .iload 2, .ifCond .ne (.ofNat 2), .aload 1, .iload 3, .iaload, .iconst (.ofNat 11), .if_icmp .ne (.ofNat 3), .jsr (.ofNat 2)]
def b41_2 : List Instr := [.iconst (.ofNat 1), .goto (.ofNat 4)]
def b41_3 : List Instr := [.iconst (.ofNat 0), .jsr (.ofNat 4)]
def b41_4 : List Instr := [.istore 2, .iinc 3 (.ofNat 1), .goto (.ofNat 1)]
def b41_5 : List Instr := [.aload 0, .iload 2, .putfield 322, .return_]
-- X5_init
def b41 : Nat → List Instr := fun t => [b41_0, b41_1, b41_2, b41_3, b41_4, b41_5].getD t []
def q41 : Nat → Nat := fun t => [0, 21, 39, 43, 44, 51].getD t 0
def b42_0 : List Instr := [.iload 0, .iconst (.ofNat 14), .if_icmp .gt (.ofNat 1), .iconst (.ofNat 6), .ireturn]
def b42_1 : List Instr := [.iload 0, .iconst (.ofNat 16), .if_icmp .gt (.ofNat 2), .iconst (.ofNat 5), .ireturn]
def b42_2 : List Instr := [.iload 0, .iconst (.ofNat 21), .if_icmp .gt (.ofNat 3), .iconst (.ofNat 4), .ireturn]
def b42_3 : List Instr := [.iload 0, .iconst (.ofNat 22), .if_icmp .ne (.ofNat 4), .iconst (.ofNat 3), .ireturn]
def b42_4 : List Instr := [.iload 0, .iconst (.ofNat 23), .if_icmp .ne (.ofNat 5), .iconst (.ofNat 2), .ireturn]
def b42_5 : List Instr := [.iload 0, .iconst (.ofNat 24), .if_icmp .ne (.ofNat 6), .iconst (.ofNat 1), .goto (.ofNat 7)]
def b42_6 : List Instr := [.iconst (.ofNat 0), .jsr (.ofNat 7)]
def b42_7 : List Instr := [.ireturn]
-- X5_binding
def b42 : Nat → List Instr := fun t => [b42_0, b42_1, b42_2, b42_3, b42_4, b42_5, b42_6, b42_7].getD t []
def q42 : Nat → Nat := fun t => [0, 9, 17, 25, 33, 41, 51, 52].getD t 0
def b43_0 : List Instr := [.iconst (.ofNat 0), .istore 2, .iconst (.ofNat 0), .istore 3, .jsr (.ofNat 1)]
def b43_1 : List Instr := [.iload 3, .aload 0, .fload 320, .arraylength, .if_icmp .ge (.ofNat 12), .aload 0, .fload 320, .iload 3, .iaload, .istore 4, .iload 4, .iconst (.ofNat 32), .if_icmp .ge (.ofNat 2), .iload 4, .iconst (.ofNat 12), .if_icmp .ge (.ofNat 6), .jsr (.ofNat 2)]
def b43_2 : List Instr := [.iload 2, .iconst (.ofNat 64), .if_icmp .ge (.ofNat 11), .iload 4, .iconst (.ofNat 32), .if_icmp .ge (.ofNat 3), .iload 4, .aload 1, .arraylength, .if_icmp .ge (.ofNat 11), .jsr (.ofNat 3)]
def b43_3 : List Instr := [.aload 0, .fload 321, .iload 2, .iload 4, .iconst (.ofNat 32), .if_icmp .lt (.ofNat 4), .iload 4, .iconst (.ofNat 32), .isub, .i2l, .goto (.ofNat 5)]
def b43_4 : List Instr := [.aload 1, .iload 4, .laload, .jsr (.ofNat 5)]
def b43_5 : List Instr := [.lastore, .iinc 2 (.ofNat 1), .goto (.ofNat 11)]
def b43_6 : List Instr := [.iload 4, .iconst (.ofNat 26), .if_icmp .ne (.ofNat 7), .aload 0, .fload 321, .iconst (.ofNat 0), .laload, .lreturn]
def b43_7 : List Instr := [.iload 4, .iconst (.ofNat 27), .if_icmp .ne (.ofNat 9), .aload 0, .fload 321, .iconst (.ofNat 1), .laload, .sipush (.ofNat 0), .lcmp, .ifCond .eq (.ofNat 8), .aload 0, .fload 321, .iconst (.ofNat 0), .laload, .lreturn]
def b43_8 : List Instr := [.iconst (.ofNat 0), .istore 2, .goto (.ofNat 11)]
def b43_9 : List Instr := [.iload 4, .iconst (.ofNat 22), .if_icmp .ne (.ofNat 10), .iload 2, .ifCond .le (.ofNat 11), .aload 0, .fload 321, .iload 2, .iconst (.ofNat 1), .isub, .sipush (.ofNat 1), .aload 0, .fload 321, .iload 2, .iconst (.ofNat 1), .isub, .laload, .lsub, .lastore, .goto (.ofNat 11)]
def b43_10 : List Instr := [.iload 2, .iconst (.ofNat 1), .if_icmp .le (.ofNat 11), .iinc 2 (.negSucc 0), .aload 0, .fload 321, .iload 2, .iconst (.ofNat 1), .isub, .iload 4, .aload 0, .fload 321, .iload 2, .iconst (.ofNat 1), .isub, .laload, .aload 0, .fload 321, .iload 2, .laload, .invokestatic 44, .lastore, .jsr (.ofNat 11)]
def b43_11 : List Instr := [.iinc 3 (.ofNat 1), .goto (.ofNat 1)]
def b43_12 : List Instr := [.sipush (.ofNat 0), .lreturn]
-- X5_worth
def b43 : Nat → List Instr := fun t => [b43_0, b43_1, b43_2, b43_3, b43_4, b43_5, b43_6, b43_7, b43_8, b43_9, b43_10, b43_11, b43_12].getD t []
def q43 : Nat → Nat := fun t => [0, 4, 35, 55, 76, 80, 87, 101, 126, 131, 163, 198, 204].getD t 0
def b44_0 : List Instr := [.iload 0, .tableswitch (.ofNat 26) 12 23 #[.ofNat 1, .ofNat 2, .ofNat 5, .ofNat 8, .ofNat 9, .ofNat 10, .ofNat 13, .ofNat 16, .ofNat 19, .ofNat 22, .ofNat 26, .ofNat 25]]
def b44_1 : List Instr := [.lload 1, .lload 3, .lmul, .lreturn]
def b44_2 : List Instr := [.lload 3, .sipush (.ofNat 0), .lcmp, .ifCond .ne (.ofNat 3), .sipush (.ofNat 0), .goto (.ofNat 4)]
def b44_3 : List Instr := [.lload 1, .lload 3, .ldiv, .jsr (.ofNat 4)]
def b44_4 : List Instr := [.lreturn]
def b44_5 : List Instr := [.lload 3, .sipush (.ofNat 0), .lcmp, .ifCond .ne (.ofNat 6), .sipush (.ofNat 0), .goto (.ofNat 7)]
def b44_6 : List Instr := [.lload 1, .lload 3, .lrem, .jsr (.ofNat 7)]
def b44_7 : List Instr := [.lreturn]
def b44_8 : List Instr := [.lload 1, .lload 3, .ladd, .lreturn]
def b44_9 : List Instr := [.lload 1, .lload 3, .lsub, .lreturn]
def b44_10 : List Instr := [.lload 1, .lload 3, .lcmp, .ifCond .ge (.ofNat 11), .sipush (.ofNat 1), .goto (.ofNat 12)]
def b44_11 : List Instr := [.sipush (.ofNat 0), .jsr (.ofNat 12)]
def b44_12 : List Instr := [.lreturn]
def b44_13 : List Instr := [.lload 1, .lload 3, .lcmp, .ifCond .gt (.ofNat 14), .sipush (.ofNat 1), .goto (.ofNat 15)]
def b44_14 : List Instr := [.sipush (.ofNat 0), .jsr (.ofNat 15)]
def b44_15 : List Instr := [.lreturn]
def b44_16 : List Instr := [.lload 1, .lload 3, .lcmp, .ifCond .ne (.ofNat 17), .sipush (.ofNat 1), .goto (.ofNat 18)]
def b44_17 : List Instr := [.sipush (.ofNat 0), .jsr (.ofNat 18)]
def b44_18 : List Instr := [.lreturn]
def b44_19 : List Instr := [.lload 1, .lload 3, .lcmp, .ifCond .lt (.ofNat 20), .sipush (.ofNat 1), .goto (.ofNat 21)]
def b44_20 : List Instr := [.sipush (.ofNat 0), .jsr (.ofNat 21)]
def b44_21 : List Instr := [.lreturn]
def b44_22 : List Instr := [.lload 1, .lload 3, .lcmp, .ifCond .le (.ofNat 23), .sipush (.ofNat 1), .goto (.ofNat 24)]
def b44_23 : List Instr := [.sipush (.ofNat 0), .jsr (.ofNat 24)]
def b44_24 : List Instr := [.lreturn]
def b44_25 : List Instr := [.lload 1, .lload 3, .land, .lreturn]
def b44_26 : List Instr := [.lload 1, .lload 3, .lor, .lreturn]
-- X5_joined
def b44 : Nat → List Instr := fun t => [b44_0, b44_1, b44_2, b44_3, b44_4, b44_5, b44_6, b44_7, b44_8, b44_9, b44_10, b44_11, b44_12, b44_13, b44_14, b44_15, b44_16, b44_17, b44_18, b44_19, b44_20, b44_21, b44_22, b44_23, b44_24, b44_25, b44_26].getD t []
def q44 : Nat → Nat := fun t => [0, 64, 68, 78, 81, 82, 92, 95, 96, 100, 104, 114, 115, 116, 126, 127, 128, 138, 139, 140, 150, 151, 152, 162, 163, 164, 168].getD t 0
def b45_0 : List Instr := [.aload 0, .monitorenter, .aload 0, .iconst (.ofNat 400), .newarray .int, .fstore 384, .aload 0, .iconst (.ofNat 64), .newarray .int, .fstore 386, .return_]
-- X6_init
def b45 : Nat → List Instr := fun t => [b45_0].getD t []
def q45 : Nat → Nat := fun t => [0].getD t 0
def b46_0 : List Instr := [.aload 0, .iconst (.ofNat 0), .putfield 385, .aload 0, .iconst (.ofNat 0), .putfield 387, .aload 0, .iconst (.ofNat 0), .putfield 388, .aload 0, .iconst (.ofNat 0), .putfield 390, .aload 0, .iconst (.ofNat 0), .putfield 391, .aload 0, .iconst (.ofNat 0), .putfield 392, .aload 0, .iconst (.ofNat 0), .putfield 393, .aload 0, .iconst (.ofNat 0), .putfield 394, .aload 1, .invokevirtual 71, .iconst (.ofNat 0), .istore 2, .jsr (.ofNat 1)]
def b46_1 : List Instr := [.iload 2, .iconst (.ofNat 400), .if_icmp .gt (.ofNat 2), .aload 0, .getfield 394, .ifCond .ne (.ofNat 2), .aload 0, .getfield 388, .iconst (.ofNat 5), .if_icmp .eq (.ofNat 2), .aload 1, .invokevirtual 72, .aload 0, .aload 1, .invokevirtual 48, .iinc 2 (.ofNat 1), .goto (.ofNat 1)]
def b46_2 : List Instr := [.aload 0, .getfield 394, .ireturn]
-- X6_read
def b46 : Nat → List Instr := fun t => [b46_0, b46_1, b46_2].getD t []
def q46 : Nat → Nat := fun t => [0, 46, 83].getD t 0
def b47_0 : List Instr := [.new 5, .dup, .aload 0, .fload 384, .aload 0, .getfield 385, .invokestatic 281, .invokespecial 41, .areturn]
-- X6_made
def b47 : Nat → List Instr := fun t => [b47_0].getD t []
def q47 : Nat → Nat := fun t => [0].getD t 0
