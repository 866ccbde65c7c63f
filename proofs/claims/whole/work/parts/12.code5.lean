def b192_0 : List Instr := [.aload 0, .sipush (.ofNat 1718579812), .invokevirtual 168, .ifCond .ne (.ofNat 1), .aload 0, .sipush (.ofNat 123581014175598), .invokevirtual 168, .ifCond .ne (.ofNat 1), .aload 0, .sipush (.ofNat 127991794264947), .invokevirtual 168, .ifCond .eq (.ofNat 2), .jsr (.ofNat 1)]
def b192_1 : List Instr := [.iconst (.ofNat 1), .goto (.ofNat 3)]
def b192_2 : List Instr := [.iconst (.ofNat 0), .jsr (.ofNat 3)]
def b192_3 : List Instr := [.ireturn]
-- X12_isFordWord
def b192 : Nat → List Instr := fun t => [b192_0, b192_1, b192_2, b192_3].getD t []
def q192 : Nat → Nat := fun t => [0, 30, 34, 35].getD t 0
def b193_0 : List Instr := [.aload 0, .invokevirtual 165, .pop, .aload 0, .getfield 776, .istore 1, .aload 0, .getfield 779, .iconst (.ofNat 6), .if_icmp .ne (.ofNat 1), .iconst (.ofNat 1), .goto (.ofNat 2)]
def b193_1 : List Instr := [.iconst (.ofNat 0), .jsr (.ofNat 2)]
def b193_2 : List Instr := [.istore 2, .iload 2, .ifCond .eq (.ofNat 3), .aload 0, .invokevirtual 192, .ifCond .ne (.ofNat 5), .goto (.ofNat 4)]
def b193_3 : List Instr := [.aload 0, .sipush (.ofNat 26479), .invokevirtual 168, .ifCond .ne (.ofNat 5), .jsr (.ofNat 4)]
def b193_4 : List Instr := [.aload 0, .iconst (.ofNat 0), .iload 1, .invokevirtual 164, .ireturn]
def b193_5 : List Instr := [.aload 0, .getfield 782, .iload 2, .ifCond .eq (.ofNat 6), .iconst (.ofNat 40), .goto (.ofNat 7)]
def b193_6 : List Instr := [.iconst (.ofNat 12), .jsr (.ofNat 7)]
def b193_7 : List Instr := [.if_icmp .ne (.ofNat 8), .aload 0, .iconst (.ofNat 4), .iload 1, .invokevirtual 164, .ireturn]
def b193_8 : List Instr := [.aload 0, .dup, .getfield 782, .iconst (.ofNat 1), .iadd, .putfield 782, .iload 2, .ifCond .eq (.ofNat 9), .aload 0, .iload 1, .invokevirtual 191, .goto (.ofNat 10)]
def b193_9 : List Instr := [.aload 0, .invokevirtual 186, .jsr (.ofNat 10)]
def b193_10 : List Instr := [.ireturn]
-- X12_clauseHere
def b193 : Nat → List Instr := fun t => [b193_0, b193_1, b193_2, b193_3, b193_4, b193_5, b193_6, b193_7, b193_8, b193_9, b193_10].getD t []
def q193 : Nat → Nat := fun t => [0, 23, 24, 39, 49, 56, 69, 71, 81, 103, 107].getD t 0
def b194_0 : List Instr := [.aload 0, .fload 772, .aload 0, .getfield 779, .iconst (.ofNat 0), .iastore, .aload 0, .iconst (.ofNat 0), .putfield 782, .aload 0, .iconst (.ofNat 0), .putfield 776, .aload 0, .iconst (.ofNat 0), .putfield 777, .aload 0, .iconst (.ofNat 0), .putfield 780, .aload 0, .invokevirtual 193, .istore 1, .jsr (.ofNat 1)]
def b194_1 : List Instr := [.iload 1, .ifCond .eq (.ofNat 2), .aload 0, .invokevirtual 165, .iconst (.ofNat 59), .if_icmp .ne (.ofNat 2), .aload 0, .dup, .getfield 776, .iconst (.ofNat 1), .iadd, .putfield 776, .aload 0, .invokevirtual 193, .istore 1, .goto (.ofNat 1)]
def b194_2 : List Instr := [.iload 1, .ifCond .eq (.ofNat 3), .aload 0, .invokevirtual 165, .iconst (.negSucc 0), .if_icmp .eq (.ofNat 3), .aload 0, .iconst (.ofNat 0), .aload 0, .getfield 776, .invokevirtual 164, .pop, .jsr (.ofNat 3)]
def b194_3 : List Instr := [.aload 0, .iconst (.ofNat 0), .putfield 769, .aload 0, .getfield 777, .ifCond .ne (.ofNat 4), .iconst (.ofNat 1), .goto (.ofNat 5)]
def b194_4 : List Instr := [.iconst (.ofNat 0), .jsr (.ofNat 5)]
def b194_5 : List Instr := [.ireturn]
-- X12_readsAll
def b194 : Nat → List Instr := fun t => [b194_0, b194_1, b194_2, b194_3, b194_4, b194_5].getD t []
def q194 : Nat → Nat := fun t => [0, 35, 66, 88, 104, 105].getD t 0
def b195_0 : List Instr := [.aload 0, .getfield 770, .iconst (.ofNat 6), .if_icmp .ne (.ofNat 1), .iconst (.negSucc 0), .ireturn]
def b195_1 : List Instr := [.aload 0, .aload 0, .getfield 770, .putfield 779, .aload 0, .fload 774, .aload 0, .getfield 779, .iconst (.ofNat 0), .iastore, .aload 0, .invokevirtual 194, .ifCond .ne (.ofNat 2), .iconst (.negSucc 1), .aload 0, .getfield 777, .isub, .ireturn]
def b195_2 : List Instr := [.aload 0, .dup, .getfield 770, .iconst (.ofNat 1), .iadd, .putfield 770, .aload 0, .getfield 770, .iconst (.ofNat 1), .isub, .ireturn]
-- X12_rule
def b195 : Nat → List Instr := fun t => [b195_0, b195_1, b195_2].getD t []
def q195 : Nat → Nat := fun t => [0, 11, 44].getD t 0
def b196_0 : List Instr := [.aload 0, .iconst (.ofNat 6), .putfield 779, .iconst (.ofNat 0), .istore 1, .jsr (.ofNat 1)]
def b196_1 : List Instr := [.iload 1, .iconst (.ofNat 110), .if_icmp .ge (.ofNat 2), .aload 0, .fload 775, .iload 1, .iconst (.ofNat 0), .iastore, .iinc 1 (.ofNat 1), .goto (.ofNat 1)]
def b196_2 : List Instr := [.aload 0, .invokevirtual 194, .ifCond .ne (.ofNat 3), .iconst (.negSucc 1), .aload 0, .getfield 777, .isub, .ireturn]
def b196_3 : List Instr := [.iconst (.ofNat 0), .istore 1, .jsr (.ofNat 4)]
def b196_4 : List Instr := [.iload 1, .iconst (.ofNat 141), .if_icmp .ge (.ofNat 7), .aload 0, .fload 788, .iload 1, .iload 1, .iconst (.ofNat 110), .if_icmp .ge (.ofNat 5), .aload 0, .fload 775, .iload 1, .iaload, .goto (.ofNat 6)]
def b196_5 : List Instr := [.iconst (.ofNat 0), .jsr (.ofNat 6)]
def b196_6 : List Instr := [.iastore, .iinc 1 (.ofNat 1), .goto (.ofNat 4)]
def b196_7 : List Instr := [.aload 0, .invokevirtual 212, .aload 0, .iconst (.ofNat 0), .putfield 793, .aload 0, .fload 788, .iconst (.ofNat 2), .iaload, .ireturn]
-- X12_ford
def b196 : Nat → List Instr := fun t => [b196_0, b196_1, b196_2, b196_3, b196_4, b196_5, b196_6, b196_7].getD t []
def q196 : Nat → Nat := fun t => [0, 8, 27, 42, 44, 71, 72, 79].getD t 0
def b197_0 : List Instr := [.iload 1, .ifCond .lt (.ofNat 1), .iload 1, .aload 0, .getfield 770, .if_icmp .ge (.ofNat 1), .iconst (.ofNat 1), .goto (.ofNat 2)]
def b197_1 : List Instr := [.iconst (.ofNat 0), .jsr (.ofNat 2)]
def b197_2 : List Instr := [.ireturn]
-- X12_isRule
def b197 : Nat → List Instr := fun t => [b197_0, b197_1, b197_2].getD t []
def q197 : Nat → Nat := fun t => [0, 16, 17].getD t 0
def b198_0 : List Instr := [.aload 0, .fload 785, .aload 0, .getfield 786, .lload 1, .lastore, .aload 0, .dup, .getfield 786, .iconst (.ofNat 1), .iadd, .putfield 786, .return_]
-- X12_push
def b198 : Nat → List Instr := fun t => [b198_0].getD t []
def q198 : Nat → Nat := fun t => [0].getD t 0
def b199_0 : List Instr := [.aload 0, .dup, .getfield 786, .iconst (.ofNat 1), .isub, .putfield 786, .aload 0, .fload 785, .aload 0, .getfield 786, .laload, .lreturn]
-- X12_pop
def b199 : Nat → List Instr := fun t => [b199_0].getD t []
def q199 : Nat → Nat := fun t => [0].getD t 0
def b200_0 : List Instr := [.iload 0, .tableswitch (.ofNat 26) 2 14 #[.ofNat 1, .ofNat 2, .ofNat 3, .ofNat 4, .ofNat 10, .ofNat 13, .ofNat 16, .ofNat 19, .ofNat 22, .ofNat 26, .ofNat 25, .ofNat 26, .ofNat 7]]
def b200_1 : List Instr := [.lload 1, .lload 3, .ladd, .lreturn]
def b200_2 : List Instr := [.lload 1, .lload 3, .lsub, .lreturn]
def b200_3 : List Instr := [.lload 1, .lload 3, .lmul, .lreturn]
def b200_4 : List Instr := [.lload 3, .sipush (.ofNat 0), .lcmp, .ifCond .ne (.ofNat 5), .sipush (.ofNat 0), .goto (.ofNat 6)]
def b200_5 : List Instr := [.lload 1, .lload 3, .ldiv, .jsr (.ofNat 6)]
def b200_6 : List Instr := [.lreturn]
def b200_7 : List Instr := [.lload 3, .sipush (.ofNat 0), .lcmp, .ifCond .ne (.ofNat 8), .sipush (.ofNat 0), .goto (.ofNat 9)]
def b200_8 : List Instr := [.lload 1, .lload 3, .lrem, .jsr (.ofNat 9)]
def b200_9 : List Instr := [.lreturn]
def b200_10 : List Instr := [.lload 1, .lload 3, .lcmp, .ifCond .ge (.ofNat 11), .sipush (.ofNat 1), .goto (.ofNat 12)]
def b200_11 : List Instr := [.sipush (.ofNat 0), .jsr (.ofNat 12)]
def b200_12 : List Instr := [.lreturn]
def b200_13 : List Instr := [.lload 1, .lload 3, .lcmp, .ifCond .gt (.ofNat 14), .sipush (.ofNat 1), .goto (.ofNat 15)]
def b200_14 : List Instr := [.sipush (.ofNat 0), .jsr (.ofNat 15)]
def b200_15 : List Instr := [.lreturn]
def b200_16 : List Instr := [.lload 1, .lload 3, .lcmp, .ifCond .ne (.ofNat 17), .sipush (.ofNat 1), .goto (.ofNat 18)]
def b200_17 : List Instr := [.sipush (.ofNat 0), .jsr (.ofNat 18)]
def b200_18 : List Instr := [.lreturn]
def b200_19 : List Instr := [.lload 1, .lload 3, .lcmp, .ifCond .lt (.ofNat 20), .sipush (.ofNat 1), .goto (.ofNat 21)]
def b200_20 : List Instr := [.sipush (.ofNat 0), .jsr (.ofNat 21)]
def b200_21 : List Instr := [.lreturn]
def b200_22 : List Instr := [.lload 1, .lload 3, .lcmp, .ifCond .le (.ofNat 23), .sipush (.ofNat 1), .goto (.ofNat 24)]
def b200_23 : List Instr := [.sipush (.ofNat 0), .jsr (.ofNat 24)]
def b200_24 : List Instr := [.lreturn]
def b200_25 : List Instr := [.lload 1, .lload 3, .land, .lreturn]
def b200_26 : List Instr := [.lload 1, .lload 3, .lor, .lreturn]
-- X12_one
def b200 : Nat → List Instr := fun t => [b200_0, b200_1, b200_2, b200_3, b200_4, b200_5, b200_6, b200_7, b200_8, b200_9, b200_10, b200_11, b200_12, b200_13, b200_14, b200_15, b200_16, b200_17, b200_18, b200_19, b200_20, b200_21, b200_22, b200_23, b200_24, b200_25, b200_26].getD t []
def q200 : Nat → Nat := fun t => [0, 68, 72, 76, 80, 90, 93, 94, 104, 107, 108, 118, 119, 120, 130, 131, 132, 142, 143, 144, 154, 155, 156, 166, 167, 168, 172].getD t 0
def b201_0 : List Instr := [.aload 0, .iconst (.ofNat 0), .putfield 786, .iload 2, .istore 4, .jsr (.ofNat 1)]
def b201_1 : List Instr := [.iload 4, .iload 3, .if_icmp .ge (.ofNat 6), .aload 0, .fload 771, .iconst (.ofNat 400), .iload 1, .imul, .iload 4, .iadd, .iaload, .iconst (.ofNat 15), .iand, .istore 5, .aload 0, .fload 771, .iconst (.ofNat 400), .iload 1, .imul, .iload 4, .iadd, .iaload, .iconst (.ofNat 4), .ishr, .istore 6, .iload 5, .ifCond .ne (.ofNat 2), .aload 0, .iload 6, .i2l, .invokevirtual 198, .goto (.ofNat 5)]
def b201_2 : List Instr := [.iload 5, .iconst (.ofNat 1), .if_icmp .ne (.ofNat 3), .aload 0, .aload 0, .fload 787, .iload 6, .laload, .invokevirtual 198, .goto (.ofNat 5)]
def b201_3 : List Instr := [.iload 5, .iconst (.ofNat 11), .if_icmp .ne (.ofNat 4), .aload 0, .sipush (.ofNat 1), .aload 0, .invokevirtual 199, .lsub, .invokevirtual 198, .goto (.ofNat 5)]
def b201_4 : List Instr := [.aload 0, .invokevirtual 199, .lstore 7, .aload 0, .invokevirtual 199, .lstore 9, .aload 0, .iload 5, .lload 9, .lload 7, .invokestatic 200, .invokevirtual 198, .jsr (.ofNat 5)]
def b201_5 : List Instr := [.iinc 4 (.ofNat 1), .goto (.ofNat 1)]
def b201_6 : List Instr := [.aload 0, .invokevirtual 199, .lreturn]
-- X12_reckons
def b201 : Nat → List Instr := fun t => [b201_0, b201_1, b201_2, b201_3, b201_4, b201_5, b201_6].getD t []
def q201 : Nat → Nat := fun t => [0, 8, 64, 84, 104, 129, 135].getD t 0
def b202_0 : List Instr := [.aload 0, .fload 788, .iconst (.ofNat 0), .iaload, .iconst (.ofNat 1), .if_icmp .ne (.ofNat 1), .iconst (.ofNat 1), .goto (.ofNat 2)]
def b202_1 : List Instr := [.iconst (.ofNat 0), .jsr (.ofNat 2)]
def b202_2 : List Instr := [.ireturn]
-- X12_isFord
def b202 : Nat → List Instr := fun t => [b202_0, b202_1, b202_2].getD t []
def q202 : Nat → Nat := fun t => [0, 14, 15].getD t 0
def b203_0 : List Instr := [.iload 1, .ifCond .lt (.ofNat 1), .iload 1, .aload 0, .fload 788, .iconst (.ofNat 2), .iaload, .if_icmp .ge (.ofNat 1), .iconst (.ofNat 1), .goto (.ofNat 2)]
def b203_1 : List Instr := [.iconst (.ofNat 0), .jsr (.ofNat 2)]
def b203_2 : List Instr := [.ireturn]
-- X12_isPerson
def b203 : Nat → List Instr := fun t => [b203_0, b203_1, b203_2].getD t []
def q203 : Nat → Nat := fun t => [0, 18, 19].getD t 0
def b204_0 : List Instr := [.aload 0, .fload 788, .iconst (.ofNat 12), .iaload, .iload 1, .ishr, .iconst (.ofNat 1), .iand, .ireturn]
-- X12_sideOf
def b204 : Nat → List Instr := fun t => [b204_0].getD t []
def q204 : Nat → Nat := fun t => [0].getD t 0
def b205_0 : List Instr := [.aload 0, .iload 1, .invokevirtual 203, .ifCond .eq (.ofNat 1), .aload 0, .iload 1, .invokevirtual 204, .ifCond .ne (.ofNat 1), .iconst (.ofNat 1), .goto (.ofNat 2)]
def b205_1 : List Instr := [.iconst (.ofNat 0), .jsr (.ofNat 2)]
def b205_2 : List Instr := [.ireturn]
-- X12_isHere
def b205 : Nat → List Instr := fun t => [b205_0, b205_1, b205_2].getD t []
def q205 : Nat → Nat := fun t => [0, 20, 21].getD t 0
def b206_0 : List Instr := [.aload 0, .fload 788, .iconst (.ofNat 19), .iconst (.ofNat 6), .iload 1, .imul, .iadd, .iload 2, .iadd, .iaload, .ireturn]
-- X12_thought
def b206 : Nat → List Instr := fun t => [b206_0].getD t []
def q206 : Nat → Nat := fun t => [0].getD t 0
def b207_0 : List Instr := [.iload 1, .iload 2, .if_icmp .ne (.ofNat 1), .aload 0, .fload 788, .iconst (.ofNat 11), .iaload, .ireturn]
def b207_1 : List Instr := [.aload 0, .fload 788, .iconst (.ofNat 11), .iaload, .aload 0, .iload 1, .iload 2, .invokevirtual 206, .iadd, .aload 0, .iload 1, .iload 1, .invokevirtual 206, .isub, .istore 3, .iload 3, .ifCond .ge (.ofNat 2), .iconst (.ofNat 0), .goto (.ofNat 3)]
def b207_2 : List Instr := [.iload 3, .jsr (.ofNat 3)]
def b207_3 : List Instr := [.ireturn]
-- X12_depthOf
def b207 : Nat → List Instr := fun t => [b207_0, b207_1, b207_2, b207_3].getD t []
def q207 : Nat → Nat := fun t => [0, 13, 43, 44].getD t 0
def b208_0 : List Instr := [.aload 0, .iload 1, .iload 2, .invokevirtual 207, .aload 0, .fload 788, .iconst (.ofNat 55), .iload 1, .iadd, .iaload, .if_icmp .gt (.ofNat 1), .aload 0, .iload 2, .iload 1, .invokevirtual 207, .aload 0, .fload 788, .iconst (.ofNat 55), .iload 2, .iadd, .iaload, .if_icmp .gt (.ofNat 1), .iconst (.ofNat 1), .goto (.ofNat 2)]
def b208_1 : List Instr := [.iconst (.ofNat 0), .jsr (.ofNat 2)]
def b208_2 : List Instr := [.ireturn]
-- X12_canWade
def b208 : Nat → List Instr := fun t => [b208_0, b208_1, b208_2].getD t []
def q208 : Nat → Nat := fun t => [0, 40, 41].getD t 0
def b209_0 : List Instr := [.aload 0, .iload 1, .iload 2, .invokevirtual 208, .ifCond .eq (.ofNat 2), .iload 1, .iload 2, .if_icmp .eq (.ofNat 1), .aload 0, .iload 1, .invokevirtual 204, .aload 0, .iload 2, .invokevirtual 204, .if_icmp .ne (.ofNat 2), .aload 0, .fload 788, .iconst (.ofNat 13), .iload 1, .iadd, .iaload, .aload 0, .fload 788, .iconst (.ofNat 61), .iload 2, .iadd, .iaload, .if_icmp .lt (.ofNat 2), .jsr (.ofNat 1)]
def b209_1 : List Instr := [.iconst (.ofNat 1), .goto (.ofNat 3)]
def b209_2 : List Instr := [.iconst (.ofNat 0), .jsr (.ofNat 3)]
def b209_3 : List Instr := [.ireturn]
-- X12_can
def b209 : Nat → List Instr := fun t => [b209_0, b209_1, b209_2, b209_3].getD t []
def q209 : Nat → Nat := fun t => [0, 48, 52, 53].getD t 0
def b210_0 : List Instr := [.iconst (.ofNat 1), .aload 0, .fload 788, .iconst (.ofNat 2), .iaload, .ishl, .ireturn]
-- X12_all
def b210 : Nat → List Instr := fun t => [b210_0].getD t []
def q210 : Nat → Nat := fun t => [0].getD t 0
def b211_0 : List Instr := [.iconst (.ofNat 0), .istore 2, .iconst (.ofNat 0), .istore 3, .jsr (.ofNat 1)]
def b211_1 : List Instr := [.iload 3, .aload 0, .fload 788, .iconst (.ofNat 2), .iaload, .if_icmp .ge (.ofNat 4), .iload 2, .iload 1, .iload 3, .invokestatic 158, .ifCond .eq (.ofNat 2), .aload 0, .fload 788, .iconst (.ofNat 13), .iload 3, .iadd, .iaload, .goto (.ofNat 3)]
def b211_2 : List Instr := [.iconst (.ofNat 0), .jsr (.ofNat 3)]
def b211_3 : List Instr := [.iadd, .istore 2, .iinc 3 (.ofNat 1), .goto (.ofNat 1)]
def b211_4 : List Instr := [.iload 2, .ireturn]
-- X12_coinsOf
def b211 : Nat → List Instr := fun t => [b211_0, b211_1, b211_2, b211_3, b211_4].getD t []
def q211 : Nat → Nat := fun t => [0, 4, 35, 36, 44].getD t 0
def b212_0 : List Instr := [.aload 0, .fload 788, .iconst (.ofNat 10), .iconst (.ofNat 0), .iastore, .aload 0, .fload 788, .iconst (.ofNat 11), .aload 0, .fload 788, .iconst (.ofNat 109), .iaload, .iastore, .aload 0, .fload 788, .iconst (.ofNat 12), .iconst (.ofNat 0), .iastore, .iconst (.ofNat 0), .istore 1, .jsr (.ofNat 1)]
def b212_1 : List Instr := [.iload 1, .iconst (.ofNat 6), .if_icmp .ge (.ofNat 2), .aload 0, .fload 788, .iconst (.ofNat 13), .iload 1, .iadd, .aload 0, .fload 788, .iconst (.ofNat 67), .iload 1, .iadd, .iaload, .iastore, .iinc 1 (.ofNat 1), .goto (.ofNat 1)]
def b212_2 : List Instr := [.iconst (.ofNat 0), .istore 1, .jsr (.ofNat 3)]
def b212_3 : List Instr := [.iload 1, .iconst (.ofNat 36), .if_icmp .ge (.ofNat 4), .aload 0, .fload 788, .iconst (.ofNat 19), .iload 1, .iadd, .aload 0, .fload 788, .iconst (.ofNat 73), .iload 1, .iadd, .iaload, .iastore, .iinc 1 (.ofNat 1), .goto (.ofNat 3)]
def b212_4 : List Instr := [.return_]
-- X12_begins
def b212 : Nat → List Instr := fun t => [b212_0, b212_1, b212_2, b212_3, b212_4].getD t []
def q212 : Nat → Nat := fun t => [0, 32, 62, 64, 94].getD t 0
def b213_0 : List Instr := [.iload 1, .iconst (.negSucc 0), .if_icmp .eq (.ofNat 1), .aload 0, .iload 1, .invokevirtual 197, .ifCond .ne (.ofNat 1), .iconst (.negSucc 1), .ireturn]
def b213_1 : List Instr := [.aload 0, .getfield 789, .istore 2, .aload 0, .iload 1, .putfield 789, .iload 2, .ireturn]
-- X12_force
def b213 : Nat → List Instr := fun t => [b213_0, b213_1].getD t []
def q213 : Nat → Nat := fun t => [0, 16].getD t 0
def b214_0 : List Instr := [.aload 0, .iload 1, .invokevirtual 203, .ifCond .eq (.ofNat 1), .iload 2, .i2l, .sipush (.ofNat 0), .sipush (.ofNat 3), .invokestatic 157, .ifCond .ne (.ofNat 2), .jsr (.ofNat 1)]
def b214_1 : List Instr := [.iconst (.negSucc 0), .ireturn]
def b214_2 : List Instr := [.iload 2, .ifCond .ne (.ofNat 3), .aload 0, .fload 788, .iconst (.ofNat 55), .iload 1, .iadd, .iaload, .goto (.ofNat 6)]
def b214_3 : List Instr := [.iload 2, .iconst (.ofNat 1), .if_icmp .ne (.ofNat 4), .aload 0, .fload 788, .iconst (.ofNat 13), .iload 1, .iadd, .iaload, .goto (.ofNat 6)]
def b214_4 : List Instr := [.iload 2, .iconst (.ofNat 2), .if_icmp .ne (.ofNat 5), .aload 0, .fload 788, .iconst (.ofNat 61), .iload 1, .iadd, .iaload, .goto (.ofNat 6)]
def b214_5 : List Instr := [.aload 0, .iload 1, .invokevirtual 204, .jsr (.ofNat 6)]
def b214_6 : List Instr := [.ireturn]
-- X12_person
def b214 : Nat → List Instr := fun t => [b214_0, b214_1, b214_2, b214_3, b214_4, b214_5, b214_6].getD t []
def q214 : Nat → Nat := fun t => [0, 20, 22, 38, 55, 72, 77].getD t 0
def b215_0 : List Instr := [.aload 0, .iload 1, .invokevirtual 203, .ifCond .eq (.ofNat 1), .aload 0, .iload 2, .invokevirtual 203, .ifCond .eq (.ofNat 1), .aload 0, .iload 1, .iload 2, .invokevirtual 206, .goto (.ofNat 2)]
def b215_1 : List Instr := [.iconst (.negSucc 0), .jsr (.ofNat 2)]
def b215_2 : List Instr := [.ireturn]
-- X12_thinks
def b215 : Nat → List Instr := fun t => [b215_0, b215_1, b215_2].getD t []
def q215 : Nat → Nat := fun t => [0, 25, 26].getD t 0
def b216_0 : List Instr := [.aload 0, .iload 1, .invokevirtual 203, .ifCond .eq (.ofNat 1), .aload 0, .iload 2, .invokevirtual 203, .ifCond .eq (.ofNat 1), .aload 0, .iload 1, .iload 2, .invokevirtual 207, .goto (.ofNat 2)]
def b216_1 : List Instr := [.iconst (.negSucc 0), .jsr (.ofNat 2)]
def b216_2 : List Instr := [.ireturn]
-- X12_depth
def b216 : Nat → List Instr := fun t => [b216_0, b216_1, b216_2].getD t []
def q216 : Nat → Nat := fun t => [0, 25, 26].getD t 0
def b217_0 : List Instr := [.iconst (.ofNat 19), .iconst (.ofNat 6), .iload 1, .imul, .iadd, .iload 1, .iadd, .istore 2, .aload 0, .fload 788, .iload 2, .aload 0, .fload 788, .iload 2, .iaload, .aload 0, .fload 788, .iconst (.ofNat 1), .iaload, .iadd, .iconst (.ofNat 20), .invokestatic 160, .iastore, .return_]
-- X12_prides
def b217 : Nat → List Instr := fun t => [b217_0].getD t []
def q217 : Nat → Nat := fun t => [0].getD t 0
def b218_0 : List Instr := [.aload 0, .fload 788, .iconst (.ofNat 13), .iload 1, .iadd, .dup2, .iaload, .iload 3, .isub, .iastore, .aload 0, .fload 788, .iconst (.ofNat 13), .iload 2, .iadd, .aload 0, .fload 788, .iconst (.ofNat 13), .iload 2, .iadd, .iaload, .iload 3, .iadd, .iconst (.ofNat 9999), .invokestatic 160, .iastore, .return_]
-- X12_pays
def b218 : Nat → List Instr := fun t => [b218_0].getD t []
def q218 : Nat → Nat := fun t => [0].getD t 0
def b219_0 : List Instr := [.aload 0, .fload 788, .iconst (.ofNat 12), .dup2, .iaload, .iconst (.ofNat 1), .iload 1, .ishl, .ixor, .iastore, .aload 0, .iload 1, .invokevirtual 217, .iload 1, .iload 2, .if_icmp .ne (.ofNat 1), .return_]
def b219_1 : List Instr := [.aload 0, .fload 788, .iconst (.ofNat 12), .dup2, .iaload, .iconst (.ofNat 1), .iload 2, .ishl, .ixor, .iastore, .aload 0, .iload 2, .invokevirtual 217, .aload 0, .iload 1, .iload 2, .aload 0, .fload 788, .iconst (.ofNat 61), .iload 2, .iadd, .iaload, .invokevirtual 218, .return_]
-- X12_goes
def b219 : Nat → List Instr := fun t => [b219_0, b219_1].getD t []
def q219 : Nat → Nat := fun t => [0, 24].getD t 0
def b220_0 : List Instr := [.iconst (.ofNat 0), .istore 2, .jsr (.ofNat 1)]
def b220_1 : List Instr := [.iload 2, .aload 0, .fload 774, .iload 1, .iaload, .if_icmp .ge (.ofNat 4), .iconst (.ofNat 48), .iload 1, .imul, .iconst (.ofNat 4), .iload 2, .imul, .iadd, .istore 3, .aload 0, .fload 773, .iload 3, .iconst (.ofNat 2), .iadd, .iaload, .ifCond .lt (.ofNat 2), .aload 0, .iload 1, .aload 0, .fload 773, .iload 3, .iconst (.ofNat 2), .iadd, .iaload, .aload 0, .fload 773, .iload 3, .iconst (.ofNat 3), .iadd, .iaload, .invokevirtual 201, .sipush (.ofNat 1), .lcmp, .ifCond .ne (.ofNat 3), .jsr (.ofNat 2)]
def b220_2 : List Instr := [.aload 0, .iload 1, .aload 0, .fload 773, .iload 3, .iaload, .aload 0, .fload 773, .iload 3, .iconst (.ofNat 1), .iadd, .iaload, .invokevirtual 201, .lreturn]
def b220_3 : List Instr := [.iinc 2 (.ofNat 1), .goto (.ofNat 1)]
def b220_4 : List Instr := [.sipush (.ofNat 0), .lreturn]
-- X12_summedBy
def b220 : Nat → List Instr := fun t => [b220_0, b220_1, b220_2, b220_3, b220_4].getD t []
def q220 : Nat → Nat := fun t => [0, 2, 58, 78, 84].getD t 0
def b221_0 : List Instr := [.aload 0, .getfield 789, .ifCond .ge (.ofNat 3), .iload 1, .iload 2, .if_icmp .ne (.ofNat 1), .sipush (.ofNat 100), .goto (.ofNat 2)]
def b221_1 : List Instr := [.sipush (.ofNat 10), .aload 0, .fload 788, .iconst (.ofNat 61), .iload 2, .iadd, .iaload, .i2l, .lsub, .jsr (.ofNat 2)]
def b221_2 : List Instr := [.lreturn]
def b221_3 : List Instr := [.aload 0, .fload 787, .iconst (.ofNat 0), .iload 1, .i2l, .lastore, .aload 0, .fload 787, .iconst (.ofNat 1), .iload 2, .i2l, .lastore, .aload 0, .fload 787, .iconst (.ofNat 2), .iload 1, .iload 2, .if_icmp .ne (.ofNat 4), .sipush (.ofNat 1), .goto (.ofNat 5)]
def b221_4 : List Instr := [.sipush (.ofNat 0), .jsr (.ofNat 5)]
def b221_5 : List Instr := [.lastore, .aload 0, .fload 787, .iconst (.ofNat 3), .aload 0, .iload 1, .iload 2, .invokevirtual 207, .i2l, .lastore, .aload 0, .fload 787, .iconst (.ofNat 4), .aload 0, .fload 788, .iconst (.ofNat 55), .iload 1, .iadd, .iaload, .i2l, .lastore, .aload 0, .fload 787, .iconst (.ofNat 5), .aload 0, .fload 788, .iconst (.ofNat 13), .iload 1, .iadd, .iaload, .i2l, .lastore, .aload 0, .fload 787, .iconst (.ofNat 6), .iload 1, .iload 2, .if_icmp .ne (.ofNat 6), .sipush (.ofNat 0), .goto (.ofNat 7)]
def b221_6 : List Instr := [.aload 0, .fload 788, .iconst (.ofNat 61), .iload 2, .iadd, .iaload, .i2l, .jsr (.ofNat 7)]
def b221_7 : List Instr := [.lastore, .aload 0, .fload 787, .iconst (.ofNat 7), .aload 0, .iload 1, .iload 2, .invokevirtual 206, .i2l, .lastore, .aload 0, .fload 787, .iconst (.ofNat 8), .aload 0, .iload 1, .iload 1, .invokevirtual 206, .i2l, .lastore, .aload 0, .fload 787, .iconst (.ofNat 9), .aload 0, .fload 788, .iconst (.ofNat 2), .iaload, .aload 0, .fload 788, .iconst (.ofNat 12), .iaload, .invokestatic 159, .isub, .i2l, .lastore, .aload 0, .fload 787, .iconst (.ofNat 10), .aload 0, .fload 788, .iconst (.ofNat 12), .iaload, .invokestatic 159, .i2l, .lastore, .aload 0, .fload 787, .iconst (.ofNat 11), .aload 0, .fload 788, .iconst (.ofNat 10), .iaload, .i2l, .lastore, .aload 0, .aload 0, .getfield 789, .invokevirtual 220, .lreturn]
-- X12_sumOf
def b221 : Nat → List Instr := fun t => [b221_0, b221_1, b221_2, b221_3, b221_4, b221_5, b221_6, b221_7].getD t []
def q221 : Nat → Nat := fun t => [0, 18, 32, 33, 63, 64, 125, 135].getD t 0
def b222_0 : List Instr := [.iconst (.negSucc 0), .istore 2, .sipush (.ofNat 0), .lstore 3, .iconst (.ofNat 0), .istore 5, .jsr (.ofNat 1)]
def b222_1 : List Instr := [.iload 5, .aload 0, .fload 788, .iconst (.ofNat 2), .iaload, .if_icmp .gt (.ofNat 8), .iload 5, .ifCond .ne (.ofNat 2), .iload 1, .goto (.ofNat 3)]
def b222_2 : List Instr := [.iload 5, .iconst (.ofNat 1), .isub, .jsr (.ofNat 3)]
def b222_3 : List Instr := [.istore 6, .iload 5, .ifCond .le (.ofNat 4), .iload 6, .iload 1, .if_icmp .eq (.ofNat 7), .jsr (.ofNat 4)]
def b222_4 : List Instr := [.aload 0, .iload 1, .iload 6, .invokevirtual 209, .ifCond .ne (.ofNat 5), .goto (.ofNat 7)]
def b222_5 : List Instr := [.aload 0, .iload 1, .iload 6, .invokevirtual 221, .lstore 7, .lload 7, .lload 3, .lcmp, .ifCond .gt (.ofNat 6), .goto (.ofNat 7)]
def b222_6 : List Instr := [.iload 6, .istore 2, .lload 7, .lstore 3, .jsr (.ofNat 7)]
def b222_7 : List Instr := [.iinc 5 (.ofNat 1), .goto (.ofNat 1)]
def b222_8 : List Instr := [.iload 2, .ireturn]
-- X12_choice
def b222 : Nat → List Instr := fun t => [b222_0, b222_1, b222_2, b222_3, b222_4, b222_5, b222_6, b222_7, b222_8].getD t []
def q222 : Nat → Nat := fun t => [0, 7, 27, 31, 44, 57, 76, 82, 88].getD t 0
def b223_0 : List Instr := [.iconst (.ofNat 0), .istore 1, .iconst (.ofNat 0), .istore 2, .jsr (.ofNat 1)]
def b223_1 : List Instr := [.iload 2, .aload 0, .fload 788, .iconst (.ofNat 2), .iaload, .if_icmp .ge (.ofNat 8), .aload 0, .fload 791, .iload 2, .aload 0, .iload 2, .invokevirtual 205, .ifCond .eq (.ofNat 2), .aload 0, .iload 2, .invokevirtual 222, .goto (.ofNat 3)]
def b223_2 : List Instr := [.iconst (.negSucc 0), .jsr (.ofNat 3)]
def b223_3 : List Instr := [.iastore, .aload 0, .fload 791, .iload 2, .iaload, .ifCond .ge (.ofNat 4), .goto (.ofNat 7)]
def b223_4 : List Instr := [.aload 0, .iload 2, .aload 0, .fload 791, .iload 2, .iaload, .invokevirtual 219, .iload 1, .aload 0, .fload 791, .iload 2, .iaload, .iload 2, .if_icmp .ne (.ofNat 5), .iconst (.ofNat 1), .goto (.ofNat 6)]
def b223_5 : List Instr := [.iconst (.ofNat 2), .jsr (.ofNat 6)]
def b223_6 : List Instr := [.iadd, .istore 1, .jsr (.ofNat 7)]
def b223_7 : List Instr := [.iinc 2 (.ofNat 1), .goto (.ofNat 1)]
def b223_8 : List Instr := [.aload 0, .fload 788, .iconst (.ofNat 10), .dup2, .iaload, .iconst (.ofNat 1), .iadd, .iastore, .iload 1, .ireturn]
-- X12_passes
def b223 : Nat → List Instr := fun t => [b223_0, b223_1, b223_2, b223_3, b223_4, b223_5, b223_6, b223_7, b223_8].getD t []
def q223 : Nat → Nat := fun t => [0, 4, 35, 36, 49, 75, 76, 78, 84].getD t 0
def b224_0 : List Instr := [.aload 0, .getfield 793, .iconst (.ofNat 20), .if_icmp .ne (.ofNat 3), .iconst (.ofNat 45), .istore 1, .jsr (.ofNat 1)]
def b224_1 : List Instr := [.iload 1, .iconst (.ofNat 900), .if_icmp .ge (.ofNat 2), .aload 0, .fload 792, .iload 1, .iconst (.ofNat 45), .isub, .aload 0, .fload 792, .iload 1, .iaload, .iastore, .iinc 1 (.ofNat 1), .goto (.ofNat 1)]
def b224_2 : List Instr := [.aload 0, .dup, .getfield 793, .iconst (.ofNat 1), .isub, .putfield 793, .jsr (.ofNat 3)]
def b224_3 : List Instr := [.iconst (.ofNat 0), .istore 1, .jsr (.ofNat 4)]
def b224_4 : List Instr := [.iload 1, .iconst (.ofNat 45), .if_icmp .ge (.ofNat 5), .aload 0, .fload 792, .iconst (.ofNat 45), .aload 0, .getfield 793, .imul, .iload 1, .iadd, .aload 0, .fload 788, .iconst (.ofNat 10), .iload 1, .iadd, .iaload, .iastore, .iinc 1 (.ofNat 1), .goto (.ofNat 4)]
def b224_5 : List Instr := [.aload 0, .dup, .getfield 793, .iconst (.ofNat 1), .iadd, .putfield 793, .return_]
-- X12_keepsAct
def b224 : Nat → List Instr := fun t => [b224_0, b224_1, b224_2, b224_3, b224_4, b224_5].getD t []
def q224 : Nat → Nat := fun t => [0, 12, 40, 50, 52, 87].getD t 0
def b225_0 : List Instr := [.aload 0, .getfield 793, .ifCond .ne (.ofNat 1), .iconst (.negSucc 0), .ireturn]
def b225_1 : List Instr := [.aload 0, .dup, .getfield 793, .iconst (.ofNat 1), .isub, .putfield 793, .iconst (.ofNat 0), .istore 1, .jsr (.ofNat 2)]
def b225_2 : List Instr := [.iload 1, .iconst (.ofNat 45), .if_icmp .ge (.ofNat 3), .aload 0, .fload 788, .iconst (.ofNat 10), .iload 1, .iadd, .aload 0, .fload 792, .iconst (.ofNat 45), .aload 0, .getfield 793, .imul, .iload 1, .iadd, .iaload, .iastore, .iinc 1 (.ofNat 1), .goto (.ofNat 2)]
def b225_3 : List Instr := [.aload 0, .getfield 793, .ireturn]
-- X12_undo
def b225 : Nat → List Instr := fun t => [b225_0, b225_1, b225_2, b225_3].getD t []
def q225 : Nat → Nat := fun t => [0, 9, 21, 56].getD t 0
def b226_0 : List Instr := [.aload 0, .invokevirtual 202, .ifCond .eq (.ofNat 1), .aload 0, .fload 788, .iconst (.ofNat 10), .iaload, .iconst (.ofNat 999), .if_icmp .ne (.ofNat 2), .jsr (.ofNat 1)]
def b226_1 : List Instr := [.iconst (.negSucc 0), .ireturn]
def b226_2 : List Instr := [.aload 0, .invokevirtual 224, .aload 0, .invokevirtual 223, .ireturn]
-- X12_day
def b226 : Nat → List Instr := fun t => [b226_0, b226_1, b226_2].getD t []
def q226 : Nat → Nat := fun t => [0, 20, 22].getD t 0
def b227_0 : List Instr := [.aload 0, .iload 1, .invokevirtual 203, .ifCond .eq (.ofNat 1), .aload 0, .iload 2, .invokevirtual 203, .ifCond .eq (.ofNat 1), .aload 0, .iload 1, .iload 2, .invokevirtual 209, .ifCond .ne (.ofNat 2), .jsr (.ofNat 1)]
def b227_1 : List Instr := [.iconst (.negSucc 0), .ireturn]
def b227_2 : List Instr := [.aload 0, .invokevirtual 224, .aload 0, .iload 1, .iload 2, .invokevirtual 219, .aload 0, .iload 1, .invokevirtual 204, .ireturn]
-- X12_cross
def b227 : Nat → List Instr := fun t => [b227_0, b227_1, b227_2].getD t []
def q227 : Nat → Nat := fun t => [0, 25, 27].getD t 0
def b228_0 : List Instr := [.aload 0, .iload 1, .invokevirtual 203, .ifCond .eq (.ofNat 1), .aload 0, .iload 2, .invokevirtual 203, .ifCond .eq (.ofNat 1), .iload 3, .i2l, .sipush (.ofNat 0), .sipush (.ofNat 20), .invokestatic 157, .ifCond .eq (.ofNat 1), .aload 0, .iload 1, .iload 2, .invokevirtual 206, .iload 3, .if_icmp .ne (.ofNat 2), .jsr (.ofNat 1)]
def b228_1 : List Instr := [.iconst (.negSucc 0), .ireturn]
def b228_2 : List Instr := [.aload 0, .invokevirtual 224, .aload 0, .iload 1, .iload 2, .invokevirtual 206, .istore 4, .aload 0, .fload 788, .iconst (.ofNat 19), .iconst (.ofNat 6), .iload 1, .imul, .iadd, .iload 2, .iadd, .iload 3, .iastore, .iload 4, .ireturn]
-- X12_remark
def b228 : Nat → List Instr := fun t => [b228_0, b228_1, b228_2].getD t []
def q228 : Nat → Nat := fun t => [0, 38, 40].getD t 0
def b229_0 : List Instr := [.aload 0, .iload 1, .invokevirtual 203, .ifCond .eq (.ofNat 1), .aload 0, .iload 2, .invokevirtual 203, .ifCond .eq (.ofNat 1), .iload 1, .iload 2, .if_icmp .eq (.ofNat 1), .iload 3, .i2l, .sipush (.ofNat 1), .sipush (.ofNat 99), .invokestatic 157, .ifCond .eq (.ofNat 1), .aload 0, .fload 788, .iconst (.ofNat 13), .iload 1, .iadd, .iaload, .iload 3, .if_icmp .ge (.ofNat 2), .jsr (.ofNat 1)]
def b229_1 : List Instr := [.iconst (.negSucc 0), .ireturn]
def b229_2 : List Instr := [.aload 0, .invokevirtual 224, .aload 0, .iload 1, .iload 2, .iload 3, .invokevirtual 218, .aload 0, .fload 788, .iconst (.ofNat 13), .iload 1, .iadd, .iaload, .ireturn]
-- X12_pay
def b229 : Nat → List Instr := fun t => [b229_0, b229_1, b229_2].getD t []
def q229 : Nat → Nat := fun t => [0, 46, 48].getD t 0
def b230_0 : List Instr := [.aload 0, .invokevirtual 202, .ifCond .eq (.ofNat 1), .iload 1, .i2l, .sipush (.ofNat 0), .sipush (.ofNat 60), .invokestatic 157, .ifCond .eq (.ofNat 1), .aload 0, .fload 788, .iconst (.ofNat 11), .iaload, .iload 1, .if_icmp .ne (.ofNat 2), .jsr (.ofNat 1)]
def b230_1 : List Instr := [.iconst (.negSucc 0), .ireturn]
def b230_2 : List Instr := [.aload 0, .invokevirtual 224, .aload 0, .fload 788, .iconst (.ofNat 11), .iaload, .istore 2, .aload 0, .fload 788, .iconst (.ofNat 11), .iload 1, .iastore, .iload 2, .ireturn]
-- X12_flood
def b230 : Nat → List Instr := fun t => [b230_0, b230_1, b230_2].getD t []
def q230 : Nat → Nat := fun t => [0, 30, 32].getD t 0
def b231_0 : List Instr := [.iconst (.ofNat 0), .istore 1, .jsr (.ofNat 1)]
def b231_1 : List Instr := [.iload 1, .iconst (.ofNat 45), .if_icmp .ge (.ofNat 2), .aload 0, .fload 794, .iload 1, .aload 0, .fload 788, .iconst (.ofNat 10), .iload 1, .iadd, .iaload, .iastore, .iinc 1 (.ofNat 1), .goto (.ofNat 1)]
def b231_2 : List Instr := [.return_]
-- X12_keeps
def b231 : Nat → List Instr := fun t => [b231_0, b231_1, b231_2].getD t []
def q231 : Nat → Nat := fun t => [0, 2, 29].getD t 0
def b232_0 : List Instr := [.iconst (.ofNat 0), .istore 1, .jsr (.ofNat 1)]
def b232_1 : List Instr := [.iload 1, .iconst (.ofNat 45), .if_icmp .ge (.ofNat 2), .aload 0, .fload 788, .iconst (.ofNat 10), .iload 1, .iadd, .aload 0, .fload 794, .iload 1, .iaload, .iastore, .iinc 1 (.ofNat 1), .goto (.ofNat 1)]
def b232_2 : List Instr := [.return_]
-- X12_laysBack
def b232 : Nat → List Instr := fun t => [b232_0, b232_1, b232_2].getD t []
def q232 : Nat → Nat := fun t => [0, 2, 29].getD t 0
def b233_0 : List Instr := [.aload 0, .iload 1, .invokevirtual 203, .ifCond .eq (.ofNat 1), .iload 2, .i2l, .sipush (.ofNat 0), .sipush (.ofNat 60), .invokestatic 157, .ifCond .eq (.ofNat 1), .iload 3, .i2l, .sipush (.ofNat 0), .sipush (.ofNat 2), .invokestatic 157, .ifCond .ne (.ofNat 2), .jsr (.ofNat 1)]
def b233_1 : List Instr := [.iconst (.negSucc 0), .ireturn]
def b233_2 : List Instr := [.aload 0, .invokevirtual 231, .iconst (.ofNat 0), .istore 4, .jsr (.ofNat 3)]
def b233_3 : List Instr := [.iload 4, .iload 2, .if_icmp .ge (.ofNat 4), .aload 0, .invokevirtual 223, .pop, .iinc 4 (.ofNat 1), .goto (.ofNat 3)]
def b233_4 : List Instr := [.iload 3, .ifCond .ne (.ofNat 5), .aload 0, .iload 1, .invokevirtual 204, .goto (.ofNat 7)]
def b233_5 : List Instr := [.iload 3, .iconst (.ofNat 1), .if_icmp .ne (.ofNat 6), .aload 0, .fload 788, .iconst (.ofNat 13), .iload 1, .iadd, .iaload, .goto (.ofNat 7)]
def b233_6 : List Instr := [.aload 0, .iload 1, .iload 1, .invokevirtual 206, .jsr (.ofNat 7)]
def b233_7 : List Instr := [.istore 4, .aload 0, .invokevirtual 232, .iload 4, .ireturn]
-- X12_ahead
def b233 : Nat → List Instr := fun t => [b233_0, b233_1, b233_2, b233_3, b233_4, b233_5, b233_6, b233_7].getD t []
def q233 : Nat → Nat := fun t => [0, 32, 34, 41, 58, 70, 87, 93].getD t 0
def b234_0 : List Instr := [.aload 0, .invokevirtual 202, .ifCond .ne (.ofNat 1), .iconst (.negSucc 0), .ireturn]
def b234_1 : List Instr := [.iconst (.negSucc 1), .istore 1, .aload 0, .invokevirtual 231, .iconst (.ofNat 0), .istore 2, .jsr (.ofNat 2)]
def b234_2 : List Instr := [.iload 2, .iconst (.ofNat 60), .if_icmp .ge (.ofNat 4), .iload 1, .ifCond .ge (.ofNat 4), .aload 0, .fload 788, .iconst (.ofNat 12), .iaload, .aload 0, .invokevirtual 210, .iconst (.ofNat 1), .isub, .if_icmp .ne (.ofNat 3), .aload 0, .fload 788, .iconst (.ofNat 10), .iaload, .istore 1, .jsr (.ofNat 3)]
def b234_3 : List Instr := [.aload 0, .invokevirtual 223, .pop, .iinc 2 (.ofNat 1), .goto (.ofNat 2)]
def b234_4 : List Instr := [.aload 0, .invokevirtual 232, .iload 1, .ireturn]
-- X12_over
def b234 : Nat → List Instr := fun t => [b234_0, b234_1, b234_2, b234_3, b234_4].getD t []
def q234 : Nat → Nat := fun t => [0, 9, 18, 52, 63].getD t 0
def b235_0 : List Instr := [.iconst (.ofNat 0), .istore 1, .iconst (.ofNat 0), .istore 2, .iconst (.ofNat 0), .istore 3, .jsr (.ofNat 1)]
def b235_1 : List Instr := [.iload 3, .aload 0, .fload 788, .iconst (.ofNat 2), .iaload, .if_icmp .ge (.ofNat 4), .aload 0, .fload 795, .iload 3, .iaload, .ifCond .ge (.ofNat 2), .goto (.ofNat 3)]
def b235_2 : List Instr := [.iinc 1 (.ofNat 1), .aload 0, .fload 795, .iload 3, .iaload, .iload 3, .if_icmp .le (.ofNat 3), .iload 2, .aload 0, .fload 788, .iconst (.ofNat 61), .aload 0, .fload 795, .iload 3, .iaload, .iadd, .iaload, .iadd, .istore 2, .jsr (.ofNat 3)]
def b235_3 : List Instr := [.iinc 3 (.ofNat 1), .goto (.ofNat 1)]
def b235_4 : List Instr := [.iload 1, .aload 0, .getfield 798, .if_icmp .lt (.ofNat 5), .iload 1, .aload 0, .getfield 798, .if_icmp .ne (.ofNat 6), .iload 2, .aload 0, .getfield 799, .if_icmp .lt (.ofNat 6), .jsr (.ofNat 5)]
def b235_5 : List Instr := [.return_]
def b235_6 : List Instr := [.aload 0, .iload 1, .putfield 798, .aload 0, .iload 2, .putfield 799, .iconst (.ofNat 0), .istore 3, .jsr (.ofNat 7)]
def b235_7 : List Instr := [.iload 3, .aload 0, .fload 788, .iconst (.ofNat 2), .iaload, .if_icmp .ge (.ofNat 8), .aload 0, .fload 796, .iload 3, .aload 0, .fload 795, .iload 3, .iaload, .iastore, .iinc 3 (.ofNat 1), .goto (.ofNat 7)]
def b235_8 : List Instr := [.return_]
-- X12_weighsRow
def b235 : Nat → List Instr := fun t => [b235_0, b235_1, b235_2, b235_3, b235_4, b235_5, b235_6, b235_7, b235_8].getD t []
def q235 : Nat → Nat := fun t => [0, 6, 28, 58, 64, 88, 89, 101, 129].getD t 0
def b236_0 : List Instr := [.aload 0, .fload 795, .iload 1, .iaload, .istore 2, .iload 2, .iload 1, .if_icmp .le (.ofNat 1), .aload 0, .fload 795, .iload 2, .iconst (.negSucc 1), .iastore, .jsr (.ofNat 1)]
def b236_1 : List Instr := [.aload 0, .fload 795, .iload 1, .iconst (.negSucc 1), .iastore, .return_]
-- X12_takesBack
def b236 : Nat → List Instr := fun t => [b236_0, b236_1].getD t []
def q236 : Nat → Nat := fun t => [0, 20].getD t 0
def b237_0 : List Instr := [.aload 0, .iload 1, .invokevirtual 236, .jsr (.ofNat 1)]
def b237_1 : List Instr := [.aload 0, .fload 797, .iload 1, .iaload, .aload 0, .fload 788, .iconst (.ofNat 2), .iaload, .iconst (.ofNat 1), .iadd, .if_icmp .ge (.ofNat 8), .aload 0, .fload 797, .iload 1, .dup2, .iaload, .iconst (.ofNat 1), .iadd, .iastore, .aload 0, .fload 797, .iload 1, .iaload, .ifCond .ne (.ofNat 2), .iconst (.negSucc 0), .goto (.ofNat 4)]
def b237_2 : List Instr := [.aload 0, .fload 797, .iload 1, .iaload, .iconst (.ofNat 1), .if_icmp .ne (.ofNat 3), .iload 1, .goto (.ofNat 4)]
def b237_3 : List Instr := [.aload 0, .fload 797, .iload 1, .iaload, .iconst (.ofNat 2), .isub, .jsr (.ofNat 4)]
def b237_4 : List Instr := [.istore 2, .iload 2, .iconst (.negSucc 0), .if_icmp .eq (.ofNat 5), .aload 0, .fload 797, .iload 1, .iaload, .iconst (.ofNat 1), .if_icmp .ne (.ofNat 6), .aload 0, .iload 1, .iload 1, .invokevirtual 209, .ifCond .eq (.ofNat 6), .jsr (.ofNat 5)]
def b237_5 : List Instr := [.aload 0, .fload 795, .iload 1, .iload 2, .iastore, .iconst (.ofNat 1), .ireturn]
def b237_6 : List Instr := [.aload 0, .fload 797, .iload 1, .iaload, .iconst (.ofNat 2), .if_icmp .lt (.ofNat 1), .iload 2, .iload 1, .if_icmp .le (.ofNat 1), .aload 0, .iload 2, .invokevirtual 205, .ifCond .eq (.ofNat 1), .aload 0, .fload 795, .iload 2, .iaload, .iconst (.negSucc 1), .if_icmp .ne (.ofNat 1), .aload 0, .iload 1, .iload 2, .invokevirtual 209, .ifCond .ne (.ofNat 7), .goto (.ofNat 1)]
def b237_7 : List Instr := [.aload 0, .fload 795, .iload 1, .iload 2, .iastore, .aload 0, .fload 795, .iload 2, .iload 1, .iastore, .iconst (.ofNat 1), .ireturn]
def b237_8 : List Instr := [.iconst (.ofNat 0), .ireturn]
-- X12_triesNext
def b237 : Nat → List Instr := fun t => [b237_0, b237_1, b237_2, b237_3, b237_4, b237_5, b237_6, b237_7, b237_8].getD t []
def q237 : Nat → Nat := fun t => [0, 5, 45, 59, 67, 92, 101, 147, 163].getD t 0
def b238_0 : List Instr := [.iload 1, .istore 2, .jsr (.ofNat 1)]
def b238_1 : List Instr := [.iload 2, .aload 0, .fload 788, .iconst (.ofNat 2), .iaload, .if_icmp .ge (.ofNat 3), .aload 0, .iload 2, .invokevirtual 205, .ifCond .eq (.ofNat 2), .aload 0, .fload 795, .iload 2, .iaload, .iconst (.negSucc 1), .if_icmp .eq (.ofNat 3), .jsr (.ofNat 2)]
def b238_2 : List Instr := [.aload 0, .fload 800, .iload 2, .iconst (.ofNat 0), .bastore, .iinc 2 (.ofNat 1), .goto (.ofNat 1)]
def b238_3 : List Instr := [.iload 2, .ireturn]
-- X12_nextOne
def b238 : Nat → List Instr := fun t => [b238_0, b238_1, b238_2, b238_3].getD t []
def q238 : Nat → Nat := fun t => [0, 2, 31, 44].getD t 0
def b239_0 : List Instr := [.iload 1, .istore 2, .jsr (.ofNat 1)]
def b239_1 : List Instr := [.iload 2, .ifCond .lt (.ofNat 2), .aload 0, .fload 800, .iload 2, .baload, .ifCond .ne (.ofNat 2), .iinc 2 (.negSucc 0), .goto (.ofNat 1)]
def b239_2 : List Instr := [.iload 2, .ireturn]
-- X12_lastOne
def b239 : Nat → List Instr := fun t => [b239_0, b239_1, b239_2].getD t []
def q239 : Nat → Nat := fun t => [0, 2, 21].getD t 0
