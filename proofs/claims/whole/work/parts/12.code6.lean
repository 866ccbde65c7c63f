def b240_0 : List Instr := [.aload 0, .iconst (.negSucc 0), .putfield 798, .aload 0, .iconst (.ofNat 0), .putfield 799, .iconst (.ofNat 0), .istore 1, .jsr (.ofNat 1)]
def b240_1 : List Instr := [.iload 1, .iconst (.ofNat 6), .if_icmp .gt (.ofNat 2), .aload 0, .fload 795, .iload 1, .iconst (.negSucc 1), .iastore, .iinc 1 (.ofNat 1), .goto (.ofNat 1)]
def b240_2 : List Instr := [.aload 0, .iconst (.ofNat 0), .invokevirtual 238, .istore 1, .iload 1, .aload 0, .fload 788, .iconst (.ofNat 2), .iaload, .if_icmp .ge (.ofNat 3), .aload 0, .fload 797, .iload 1, .iconst (.negSucc 0), .iastore, .jsr (.ofNat 3)]
def b240_3 : List Instr := [.iload 1, .ifCond .lt (.ofNat 7), .iload 1, .aload 0, .fload 788, .iconst (.ofNat 2), .iaload, .if_icmp .ne (.ofNat 4), .aload 0, .invokevirtual 235, .aload 0, .iload 1, .iconst (.ofNat 1), .isub, .invokevirtual 239, .istore 1, .goto (.ofNat 3)]
def b240_4 : List Instr := [.aload 0, .fload 800, .iload 1, .iconst (.ofNat 1), .bastore, .aload 0, .iload 1, .invokevirtual 237, .ifCond .eq (.ofNat 6), .aload 0, .iload 1, .iconst (.ofNat 1), .iadd, .invokevirtual 238, .istore 2, .iload 2, .aload 0, .fload 788, .iconst (.ofNat 2), .iaload, .if_icmp .ge (.ofNat 5), .aload 0, .fload 797, .iload 2, .iconst (.negSucc 0), .iastore, .jsr (.ofNat 5)]
def b240_5 : List Instr := [.iload 2, .istore 1, .goto (.ofNat 3)]
def b240_6 : List Instr := [.aload 0, .iload 1, .iconst (.ofNat 1), .isub, .invokevirtual 239, .istore 1, .goto (.ofNat 3)]
def b240_7 : List Instr := [.return_]
-- X12_findsMost
def b240 : Nat → List Instr := fun t => [b240_0, b240_1, b240_2, b240_3, b240_4, b240_5, b240_6, b240_7].getD t []
def q240 : Nat → Nat := fun t => [0, 12, 32, 55, 84, 124, 129, 140].getD t 0
def b241_0 : List Instr := [.aload 0, .invokevirtual 202, .ifCond .eq (.ofNat 1), .iload 1, .i2l, .sipush (.ofNat 0), .sipush (.ofNat 7), .invokestatic 157, .ifCond .ne (.ofNat 2), .jsr (.ofNat 1)]
def b241_1 : List Instr := [.iconst (.negSucc 2), .ireturn]
def b241_2 : List Instr := [.aload 0, .invokevirtual 240, .iload 1, .iconst (.ofNat 2), .if_icmp .ge (.ofNat 5), .iload 1, .ifCond .ne (.ofNat 3), .aload 0, .getfield 798, .goto (.ofNat 4)]
def b241_3 : List Instr := [.aload 0, .getfield 799, .jsr (.ofNat 4)]
def b241_4 : List Instr := [.ireturn]
def b241_5 : List Instr := [.aload 0, .iload 1, .iconst (.ofNat 2), .isub, .invokevirtual 205, .ifCond .eq (.ofNat 6), .aload 0, .fload 796, .iload 1, .iconst (.ofNat 2), .isub, .iaload, .goto (.ofNat 7)]
def b241_6 : List Instr := [.iconst (.negSucc 1), .jsr (.ofNat 7)]
def b241_7 : List Instr := [.ireturn]
-- X12_most
def b241 : Nat → List Instr := fun t => [b241_0, b241_1, b241_2, b241_3, b241_4, b241_5, b241_6, b241_7].getD t []
def q241 : Nat → Nat := fun t => [0, 19, 22, 42, 46, 47, 68, 70].getD t 0
def b242_0 : List Instr := [.iload 1, .iload 2, .invokestatic 158, .iload 1, .iload 3, .invokestatic 158, .if_icmp .ne (.ofNat 1), .aload 0, .iload 2, .iload 3, .invokevirtual 208, .ifCond .ne (.ofNat 2), .jsr (.ofNat 1)]
def b242_1 : List Instr := [.iconst (.negSucc 0), .ireturn]
def b242_2 : List Instr := [.iload 1, .iconst (.ofNat 1), .iload 2, .ishl, .iconst (.ofNat 1), .iload 3, .ishl, .ior, .ixor, .ireturn]
-- X12_placeBy
def b242 : Nat → List Instr := fun t => [b242_0, b242_1, b242_2].getD t []
def q242 : Nat → Nat := fun t => [0, 22, 24].getD t 0
def b243_0 : List Instr := [.aload 0, .iload 1, .iload 2, .iload 3, .invokevirtual 242, .istore 5, .iload 5, .ifCond .lt (.ofNat 1), .aload 0, .fload 801, .iload 5, .iaload, .iload 4, .if_icmp .ne (.ofNat 1), .iconst (.ofNat 1), .goto (.ofNat 2)]
def b243_1 : List Instr := [.iconst (.ofNat 0), .jsr (.ofNat 2)]
def b243_2 : List Instr := [.ireturn]
-- X12_isOneFewer
def b243 : Nat → List Instr := fun t => [b243_0, b243_1, b243_2].getD t []
def q243 : Nat → Nat := fun t => [0, 30, 31].getD t 0
def b244_0 : List Instr := [.iconst (.ofNat 0), .istore 3, .jsr (.ofNat 1)]
def b244_1 : List Instr := [.iload 3, .aload 0, .fload 788, .iconst (.ofNat 2), .iaload, .if_icmp .ge (.ofNat 5), .iload 3, .istore 4, .jsr (.ofNat 2)]
def b244_2 : List Instr := [.iload 4, .aload 0, .fload 788, .iconst (.ofNat 2), .iaload, .if_icmp .ge (.ofNat 4), .aload 0, .iload 1, .iload 3, .iload 4, .iload 2, .invokevirtual 243, .ifCond .eq (.ofNat 3), .iconst (.ofNat 1), .ireturn]
def b244_3 : List Instr := [.iinc 4 (.ofNat 1), .goto (.ofNat 2)]
def b244_4 : List Instr := [.iinc 3 (.ofNat 1), .goto (.ofNat 1)]
def b244_5 : List Instr := [.iconst (.ofNat 0), .ireturn]
-- X12_leadsTo
def b244 : Nat → List Instr := fun t => [b244_0, b244_1, b244_2, b244_3, b244_4, b244_5].getD t []
def q244 : Nat → Nat := fun t => [0, 2, 15, 40, 46, 52].getD t 0
def b245_0 : List Instr := [.iconst (.ofNat 0), .istore 1, .jsr (.ofNat 1)]
def b245_1 : List Instr := [.iload 1, .iconst (.ofNat 64), .if_icmp .ge (.ofNat 4), .aload 0, .fload 801, .iload 1, .iload 1, .aload 0, .invokevirtual 210, .iconst (.ofNat 1), .isub, .if_icmp .ne (.ofNat 2), .iconst (.ofNat 0), .goto (.ofNat 3)]
def b245_2 : List Instr := [.iconst (.negSucc 0), .jsr (.ofNat 3)]
def b245_3 : List Instr := [.iastore, .iinc 1 (.ofNat 1), .goto (.ofNat 1)]
def b245_4 : List Instr := [.iconst (.ofNat 1), .istore 1, .iconst (.ofNat 0), .istore 2, .jsr (.ofNat 5)]
def b245_5 : List Instr := [.iload 1, .ifCond .eq (.ofNat 10), .iconst (.ofNat 0), .istore 1, .iconst (.ofNat 0), .istore 3, .jsr (.ofNat 6)]
def b245_6 : List Instr := [.iload 3, .aload 0, .invokevirtual 210, .if_icmp .ge (.ofNat 9), .aload 0, .fload 801, .iload 3, .iaload, .ifCond .ge (.ofNat 8), .aload 0, .iload 3, .iload 2, .invokevirtual 244, .ifCond .ne (.ofNat 7), .goto (.ofNat 8)]
def b245_7 : List Instr := [.aload 0, .fload 801, .iload 3, .iload 2, .iconst (.ofNat 1), .iadd, .iastore, .iconst (.ofNat 1), .istore 1, .jsr (.ofNat 8)]
def b245_8 : List Instr := [.iinc 3 (.ofNat 1), .goto (.ofNat 6)]
def b245_9 : List Instr := [.iinc 2 (.ofNat 1), .goto (.ofNat 5)]
def b245_10 : List Instr := [.return_]
-- X12_fillsNeeds
def b245 : Nat → List Instr := fun t => [b245_0, b245_1, b245_2, b245_3, b245_4, b245_5, b245_6, b245_7, b245_8, b245_9, b245_10].getD t []
def q245 : Nat → Nat := fun t => [0, 2, 27, 28, 35, 39, 47, 76, 87, 93, 99].getD t 0
def b246_0 : List Instr := [.aload 0, .fload 801, .aload 0, .fload 788, .iconst (.ofNat 12), .iaload, .iaload, .iconst (.ofNat 1), .isub, .istore 1, .iconst (.ofNat 0), .istore 2, .jsr (.ofNat 1)]
def b246_1 : List Instr := [.iload 2, .aload 0, .fload 788, .iconst (.ofNat 2), .iaload, .if_icmp .ge (.ofNat 3), .aload 0, .aload 0, .fload 788, .iconst (.ofNat 12), .iaload, .iload 2, .iload 2, .iload 1, .invokevirtual 243, .ifCond .eq (.ofNat 2), .iconst (.ofNat 6), .iload 2, .imul, .iload 2, .iadd, .ireturn]
def b246_2 : List Instr := [.iinc 2 (.ofNat 1), .goto (.ofNat 1)]
def b246_3 : List Instr := [.iconst (.ofNat 0), .istore 2, .jsr (.ofNat 4)]
def b246_4 : List Instr := [.iload 2, .aload 0, .fload 788, .iconst (.ofNat 2), .iaload, .if_icmp .ge (.ofNat 8), .iload 2, .iconst (.ofNat 1), .iadd, .istore 3, .jsr (.ofNat 5)]
def b246_5 : List Instr := [.iload 3, .aload 0, .fload 788, .iconst (.ofNat 2), .iaload, .if_icmp .ge (.ofNat 7), .aload 0, .aload 0, .fload 788, .iconst (.ofNat 12), .iaload, .iload 2, .iload 3, .iload 1, .invokevirtual 243, .ifCond .eq (.ofNat 6), .iconst (.ofNat 6), .iload 2, .imul, .iload 3, .iadd, .ireturn]
def b246_6 : List Instr := [.iinc 3 (.ofNat 1), .goto (.ofNat 5)]
def b246_7 : List Instr := [.iinc 2 (.ofNat 1), .goto (.ofNat 4)]
def b246_8 : List Instr := [.iconst (.negSucc 0), .ireturn]
-- X12_firstGoing
def b246 : Nat → List Instr := fun t => [b246_0, b246_1, b246_2, b246_3, b246_4, b246_5, b246_6, b246_7, b246_8].getD t []
def q246 : Nat → Nat := fun t => [0, 17, 51, 57, 59, 73, 107, 113, 119].getD t 0
def b247_0 : List Instr := [.aload 0, .invokevirtual 202, .ifCond .eq (.ofNat 1), .iload 1, .i2l, .sipush (.ofNat 0), .sipush (.ofNat 2), .invokestatic 157, .ifCond .ne (.ofNat 2), .jsr (.ofNat 1)]
def b247_1 : List Instr := [.iconst (.negSucc 2), .ireturn]
def b247_2 : List Instr := [.aload 0, .invokevirtual 245, .aload 0, .fload 801, .aload 0, .fload 788, .iconst (.ofNat 12), .iaload, .iaload, .istore 2, .iload 2, .ifCond .ge (.ofNat 3), .iconst (.negSucc 1), .ireturn]
def b247_3 : List Instr := [.iload 1, .ifCond .ne (.ofNat 4), .iload 2, .ireturn]
def b247_4 : List Instr := [.iload 2, .ifCond .ne (.ofNat 5), .iconst (.negSucc 0), .ireturn]
def b247_5 : List Instr := [.iload 1, .iconst (.ofNat 1), .if_icmp .ne (.ofNat 6), .aload 0, .invokevirtual 246, .iconst (.ofNat 6), .idiv, .goto (.ofNat 7)]
def b247_6 : List Instr := [.aload 0, .invokevirtual 246, .iconst (.ofNat 6), .irem, .jsr (.ofNat 7)]
def b247_7 : List Instr := [.ireturn]
-- X12_fewest
def b247 : Nat → List Instr := fun t => [b247_0, b247_1, b247_2, b247_3, b247_4, b247_5, b247_6, b247_7].getD t []
def q247 : Nat → Nat := fun t => [0, 19, 22, 46, 52, 58, 73, 80].getD t 0
def b248_0 : List Instr := [.iload 1, .iload 2, .if_icmp .eq (.ofNat 1), .aload 0, .iload 1, .iload 2, .invokevirtual 206, .aload 0, .iload 1, .iload 1, .invokevirtual 206, .if_icmp .ge (.ofNat 1), .iconst (.ofNat 1), .goto (.ofNat 2)]
def b248_1 : List Instr := [.iconst (.ofNat 0), .jsr (.ofNat 2)]
def b248_2 : List Instr := [.ireturn]
-- X12_looksDown
def b248 : Nat → List Instr := fun t => [b248_0, b248_1, b248_2].getD t []
def q248 : Nat → Nat := fun t => [0, 24, 25].getD t 0
def b249_0 : List Instr := [.aload 0, .fload 802, .iload 1, .iaload, .istore 2, .iload 2, .aload 0, .fload 802, .iconst (.ofNat 0), .iaload, .if_icmp .le (.ofNat 1), .aload 0, .aload 0, .fload 802, .iload 1, .iconst (.ofNat 1), .isub, .iaload, .iload 2, .invokevirtual 248, .ifCond .ne (.ofNat 2), .jsr (.ofNat 1)]
def b249_1 : List Instr := [.iconst (.ofNat 0), .ireturn]
def b249_2 : List Instr := [.iconst (.ofNat 1), .istore 3, .jsr (.ofNat 3)]
def b249_3 : List Instr := [.iload 3, .iload 1, .if_icmp .ge (.ofNat 5), .aload 0, .fload 802, .iload 3, .iaload, .iload 2, .if_icmp .ne (.ofNat 4), .iconst (.ofNat 0), .ireturn]
def b249_4 : List Instr := [.iinc 3 (.ofNat 1), .goto (.ofNat 3)]
def b249_5 : List Instr := [.iconst (.ofNat 1), .ireturn]
-- X12_canBeNext
def b249 : Nat → List Instr := fun t => [b249_0, b249_1, b249_2, b249_3, b249_4, b249_5].getD t []
def q249 : Nat → Nat := fun t => [0, 33, 35, 37, 54, 60].getD t 0
def b250_0 : List Instr := [.iconst (.ofNat 1), .istore 3, .aload 0, .fload 802, .iconst (.ofNat 0), .iload 1, .iastore, .aload 0, .fload 802, .iconst (.ofNat 1), .iconst (.negSucc 0), .iastore, .jsr (.ofNat 1)]
def b250_1 : List Instr := [.iload 3, .ifCond .le (.ofNat 4), .aload 0, .fload 802, .iload 3, .dup2, .iaload, .iconst (.ofNat 1), .iadd, .iastore, .aload 0, .fload 802, .iload 3, .iaload, .aload 0, .fload 788, .iconst (.ofNat 2), .iaload, .if_icmp .lt (.ofNat 2), .iinc 3 (.negSucc 0), .goto (.ofNat 1)]
def b250_2 : List Instr := [.aload 0, .iload 3, .invokevirtual 249, .ifCond .eq (.ofNat 1), .iload 3, .iconst (.ofNat 1), .iadd, .iload 2, .if_icmp .ge (.ofNat 3), .iinc 3 (.ofNat 1), .aload 0, .fload 802, .iload 3, .iconst (.negSucc 0), .iastore, .goto (.ofNat 1)]
def b250_3 : List Instr := [.aload 0, .aload 0, .fload 802, .iload 3, .iaload, .iload 1, .invokevirtual 248, .ifCond .eq (.ofNat 1), .iconst (.ofNat 1), .ireturn]
def b250_4 : List Instr := [.iconst (.ofNat 0), .ireturn]
-- X12_isRingFrom
def b250 : Nat → List Instr := fun t => [b250_0, b250_1, b250_2, b250_3, b250_4].getD t []
def q250 : Nat → Nat := fun t => [0, 16, 51, 79, 95].getD t 0
def b251_0 : List Instr := [.aload 0, .invokevirtual 202, .ifCond .eq (.ofNat 1), .iload 1, .i2l, .sipush (.ofNat 0), .sipush (.ofNat 1), .invokestatic 157, .ifCond .ne (.ofNat 2), .jsr (.ofNat 1)]
def b251_1 : List Instr := [.iconst (.negSucc 0), .ireturn]
def b251_2 : List Instr := [.iconst (.ofNat 2), .istore 2, .jsr (.ofNat 3)]
def b251_3 : List Instr := [.iload 2, .aload 0, .fload 788, .iconst (.ofNat 2), .iaload, .if_icmp .gt (.ofNat 12), .iconst (.ofNat 0), .istore 3, .jsr (.ofNat 4)]
def b251_4 : List Instr := [.iload 3, .aload 0, .fload 788, .iconst (.ofNat 2), .iaload, .if_icmp .ge (.ofNat 11), .aload 0, .iload 3, .iload 2, .invokevirtual 250, .ifCond .ne (.ofNat 5), .goto (.ofNat 10)]
def b251_5 : List Instr := [.iconst (.ofNat 0), .istore 4, .iconst (.ofNat 0), .istore 5, .jsr (.ofNat 6)]
def b251_6 : List Instr := [.iload 5, .iload 2, .if_icmp .ge (.ofNat 7), .iload 4, .iconst (.ofNat 1), .aload 0, .fload 802, .iload 5, .iaload, .ishl, .ior, .istore 4, .iinc 5 (.ofNat 1), .goto (.ofNat 6)]
def b251_7 : List Instr := [.iload 1, .ifCond .ne (.ofNat 8), .iload 2, .goto (.ofNat 9)]
def b251_8 : List Instr := [.iload 4, .jsr (.ofNat 9)]
def b251_9 : List Instr := [.ireturn]
def b251_10 : List Instr := [.iinc 3 (.ofNat 1), .goto (.ofNat 4)]
def b251_11 : List Instr := [.iinc 2 (.ofNat 1), .goto (.ofNat 3)]
def b251_12 : List Instr := [.iconst (.negSucc 1), .ireturn]
-- X12_ring
def b251 : Nat → List Instr := fun t => [b251_0, b251_1, b251_2, b251_3, b251_4, b251_5, b251_6, b251_7, b251_8, b251_9, b251_10, b251_11, b251_12].getD t []
def q251 : Nat → Nat := fun t => [0, 17, 19, 21, 33, 55, 61, 87, 95, 97, 98, 104, 110].getD t 0
def b252_0 : List Instr := [.aload 0, .iload 1, .iload 1, .invokevirtual 209, .ifCond .eq (.ofNat 1), .iconst (.ofNat 1), .ireturn]
def b252_1 : List Instr := [.iconst (.ofNat 0), .istore 2, .jsr (.ofNat 2)]
def b252_2 : List Instr := [.iload 2, .aload 0, .fload 788, .iconst (.ofNat 2), .iaload, .if_icmp .ge (.ofNat 4), .iload 2, .iload 1, .if_icmp .eq (.ofNat 3), .aload 0, .iload 2, .invokevirtual 204, .aload 0, .iload 1, .invokevirtual 204, .if_icmp .ne (.ofNat 3), .aload 0, .iload 1, .iload 2, .invokevirtual 209, .ifCond .eq (.ofNat 3), .iconst (.ofNat 1), .ireturn]
def b252_3 : List Instr := [.iinc 2 (.ofNat 1), .goto (.ofNat 2)]
def b252_4 : List Instr := [.iconst (.ofNat 0), .ireturn]
-- X12_canSomehow
def b252 : Nat → List Instr := fun t => [b252_0, b252_1, b252_2, b252_3, b252_4].getD t []
def q252 : Nat → Nat := fun t => [0, 11, 13, 52, 58].getD t 0
def b253_0 : List Instr := [.iconst (.ofNat 0), .istore 1, .iconst (.ofNat 0), .istore 2, .jsr (.ofNat 1)]
def b253_1 : List Instr := [.iload 2, .aload 0, .fload 788, .iconst (.ofNat 2), .iaload, .if_icmp .ge (.ofNat 4), .iload 1, .aload 0, .iload 2, .invokevirtual 205, .ifCond .eq (.ofNat 2), .aload 0, .iload 2, .invokevirtual 252, .ifCond .eq (.ofNat 2), .iconst (.ofNat 1), .goto (.ofNat 3)]
def b253_2 : List Instr := [.iconst (.ofNat 0), .jsr (.ofNat 3)]
def b253_3 : List Instr := [.iadd, .istore 1, .iinc 2 (.ofNat 1), .goto (.ofNat 1)]
def b253_4 : List Instr := [.iload 1, .ireturn]
-- X12_canMany
def b253 : Nat → List Instr := fun t => [b253_0, b253_1, b253_2, b253_3, b253_4].getD t []
def q253 : Nat → Nat := fun t => [0, 4, 35, 36, 44].getD t 0
def b254_0 : List Instr := [.aload 0, .invokevirtual 202, .ifCond .eq (.ofNat 1), .iload 1, .i2l, .sipush (.ofNat 0), .sipush (.ofNat 2), .invokestatic 157, .ifCond .ne (.ofNat 2), .jsr (.ofNat 1)]
def b254_1 : List Instr := [.iconst (.negSucc 1), .ireturn]
def b254_2 : List Instr := [.iconst (.negSucc 0), .istore 2, .iconst (.negSucc 0), .istore 3, .aload 0, .invokevirtual 253, .istore 4, .iconst (.ofNat 0), .istore 5, .jsr (.ofNat 3)]
def b254_3 : List Instr := [.iload 5, .aload 0, .fload 788, .iconst (.ofNat 2), .iaload, .if_icmp .ge (.ofNat 8), .iconst (.ofNat 19), .iconst (.ofNat 6), .iload 5, .imul, .iadd, .iload 5, .iadd, .istore 6, .aload 0, .fload 788, .iload 6, .iaload, .istore 7, .iconst (.ofNat 0), .istore 8, .jsr (.ofNat 4)]
def b254_4 : List Instr := [.iload 8, .iconst (.ofNat 20), .if_icmp .gt (.ofNat 7), .aload 0, .fload 788, .iload 6, .iload 8, .iastore, .aload 0, .invokevirtual 253, .istore 9, .iload 9, .iload 4, .if_icmp .gt (.ofNat 5), .goto (.ofNat 6)]
def b254_5 : List Instr := [.iload 5, .istore 2, .iload 8, .istore 3, .iload 9, .istore 4, .jsr (.ofNat 6)]
def b254_6 : List Instr := [.iinc 8 (.ofNat 1), .goto (.ofNat 4)]
def b254_7 : List Instr := [.aload 0, .fload 788, .iload 6, .iload 7, .iastore, .iinc 5 (.ofNat 1), .goto (.ofNat 3)]
def b254_8 : List Instr := [.iload 1, .ifCond .ne (.ofNat 9), .iload 4, .goto (.ofNat 11)]
def b254_9 : List Instr := [.iload 1, .iconst (.ofNat 1), .if_icmp .ne (.ofNat 10), .iload 2, .goto (.ofNat 11)]
def b254_10 : List Instr := [.iload 3, .jsr (.ofNat 11)]
def b254_11 : List Instr := [.ireturn]
-- X12_oneRemark
def b254 : Nat → List Instr := fun t => [b254_0, b254_1, b254_2, b254_3, b254_4, b254_5, b254_6, b254_7, b254_8, b254_9, b254_10, b254_11].getD t []
def q254 : Nat → Nat := fun t => [0, 19, 22, 35, 71, 103, 113, 119, 134, 143, 152, 153].getD t 0
def b255_0 : List Instr := [.aload 0, .iload 1, .invokevirtual 203, .ifCond .ne (.ofNat 1), .iconst (.negSucc 0), .ireturn]
def b255_1 : List Instr := [.aload 0, .fload 788, .iconst (.ofNat 11), .iaload, .istore 2, .iconst (.negSucc 1), .istore 3, .iconst (.ofNat 0), .istore 4, .jsr (.ofNat 2)]
def b255_2 : List Instr := [.iload 4, .iconst (.ofNat 60), .if_icmp .gt (.ofNat 4), .iload 3, .ifCond .ge (.ofNat 4), .aload 0, .fload 788, .iconst (.ofNat 11), .iload 4, .iastore, .aload 0, .iload 1, .invokevirtual 252, .ifCond .ne (.ofNat 3), .iload 4, .istore 3, .jsr (.ofNat 3)]
def b255_3 : List Instr := [.iinc 4 (.ofNat 1), .goto (.ofNat 2)]
def b255_4 : List Instr := [.aload 0, .fload 788, .iconst (.ofNat 11), .iload 2, .iastore, .iload 3, .ireturn]
-- X12_rise
def b255 : Nat → List Instr := fun t => [b255_0, b255_1, b255_2, b255_3, b255_4].getD t []
def q255 : Nat → Nat := fun t => [0, 10, 24, 55, 61].getD t 0
def b256_0 : List Instr := [.aload 0, .invokevirtual 202, .ifCond .ne (.ofNat 1), .iconst (.negSucc 0), .ireturn]
def b256_1 : List Instr := [.iconst (.ofNat 0), .istore 1, .iconst (.ofNat 0), .istore 2, .jsr (.ofNat 2)]
def b256_2 : List Instr := [.iload 2, .aload 0, .fload 788, .iconst (.ofNat 2), .iaload, .if_icmp .ge (.ofNat 10), .iconst (.ofNat 1), .istore 3, .iconst (.ofNat 0), .istore 4, .jsr (.ofNat 3)]
def b256_3 : List Instr := [.iload 4, .aload 0, .fload 788, .iconst (.ofNat 2), .iaload, .if_icmp .ge (.ofNat 7), .iload 3, .ifCond .eq (.ofNat 5), .iload 4, .iload 2, .if_icmp .eq (.ofNat 4), .aload 0, .iload 2, .iload 4, .invokevirtual 207, .iconst (.ofNat 1), .if_icmp .gt (.ofNat 5), .jsr (.ofNat 4)]
def b256_4 : List Instr := [.iconst (.ofNat 1), .goto (.ofNat 6)]
def b256_5 : List Instr := [.iconst (.ofNat 0), .jsr (.ofNat 6)]
def b256_6 : List Instr := [.istore 3, .iinc 4 (.ofNat 1), .goto (.ofNat 3)]
def b256_7 : List Instr := [.iload 1, .iload 3, .ifCond .eq (.ofNat 8), .iconst (.ofNat 1), .iload 2, .ishl, .goto (.ofNat 9)]
def b256_8 : List Instr := [.iconst (.ofNat 0), .jsr (.ofNat 9)]
def b256_9 : List Instr := [.ior, .istore 1, .iinc 2 (.ofNat 1), .goto (.ofNat 2)]
def b256_10 : List Instr := [.iload 1, .ireturn]
-- X12_fair
def b256 : Nat → List Instr := fun t => [b256_0, b256_1, b256_2, b256_3, b256_4, b256_5, b256_6, b256_7, b256_8, b256_9, b256_10].getD t []
def q256 : Nat → Nat := fun t => [0, 9, 13, 28, 60, 64, 65, 72, 83, 84, 92].getD t 0
def b257_0 : List Instr := [.aload 0, .iload 1, .invokevirtual 203, .ifCond .eq (.ofNat 1), .aload 0, .iload 2, .invokevirtual 203, .ifCond .eq (.ofNat 1), .iload 1, .iload 2, .if_icmp .eq (.ofNat 1), .aload 0, .iload 1, .invokevirtual 204, .aload 0, .iload 2, .invokevirtual 204, .if_icmp .eq (.ofNat 2), .jsr (.ofNat 1)]
def b257_1 : List Instr := [.iconst (.negSucc 0), .ireturn]
def b257_2 : List Instr := [.iconst (.ofNat 19), .iconst (.ofNat 6), .iload 1, .imul, .iadd, .iload 1, .iadd, .istore 3, .aload 0, .fload 788, .iload 3, .iaload, .istore 4, .iconst (.negSucc 1), .istore 5, .iconst (.ofNat 0), .istore 6, .jsr (.ofNat 3)]
def b257_3 : List Instr := [.iload 6, .iconst (.ofNat 20), .if_icmp .gt (.ofNat 5), .iload 5, .ifCond .ge (.ofNat 5), .aload 0, .fload 788, .iload 3, .iload 6, .iastore, .aload 0, .iload 1, .iload 2, .invokevirtual 209, .ifCond .eq (.ofNat 4), .iload 6, .istore 5, .jsr (.ofNat 4)]
def b257_4 : List Instr := [.iinc 6 (.ofNat 1), .goto (.ofNat 3)]
def b257_5 : List Instr := [.aload 0, .fload 788, .iload 3, .iload 4, .iastore, .iload 5, .ireturn]
-- X12_self
def b257 : Nat → List Instr := fun t => [b257_0, b257_1, b257_2, b257_3, b257_4, b257_5].getD t []
def q257 : Nat → Nat := fun t => [0, 34, 36, 61, 94, 100].getD t 0
def b258_0 : List Instr := [.iconst (.ofNat 0), .istore 2, .jsr (.ofNat 1)]
def b258_1 : List Instr := [.iload 2, .iload 1, .if_icmp .ge (.ofNat 2), .aload 0, .invokevirtual 223, .pop, .iinc 2 (.ofNat 1), .goto (.ofNat 1)]
def b258_2 : List Instr := [.aload 0, .fload 788, .iconst (.ofNat 12), .iaload, .invokestatic 159, .istore 2, .aload 0, .invokevirtual 232, .iload 2, .ireturn]
-- X12_overIn
def b258 : Nat → List Instr := fun t => [b258_0, b258_1, b258_2].getD t []
def q258 : Nat → Nat := fun t => [0, 2, 18].getD t 0
def b259_0 : List Instr := [.aload 0, .invokevirtual 202, .ifCond .eq (.ofNat 1), .iload 1, .i2l, .sipush (.ofNat 1), .sipush (.ofNat 30), .invokestatic 157, .ifCond .eq (.ofNat 1), .iload 2, .i2l, .sipush (.ofNat 0), .sipush (.ofNat 1), .invokestatic 157, .ifCond .ne (.ofNat 2), .jsr (.ofNat 1)]
def b259_1 : List Instr := [.iconst (.negSucc 1), .ireturn]
def b259_2 : List Instr := [.iconst (.negSucc 0), .istore 3, .aload 0, .invokevirtual 231, .aload 0, .iload 1, .invokevirtual 258, .istore 4, .iconst (.ofNat 0), .istore 5, .jsr (.ofNat 3)]
def b259_3 : List Instr := [.iload 5, .aload 0, .fload 788, .iconst (.ofNat 2), .iaload, .if_icmp .ge (.ofNat 6), .aload 0, .fload 788, .iconst (.ofNat 61), .iload 5, .iadd, .iaload, .istore 6, .aload 0, .fload 788, .iconst (.ofNat 61), .iload 5, .iadd, .iconst (.ofNat 0), .iastore, .aload 0, .iload 1, .invokevirtual 258, .istore 7, .aload 0, .fload 788, .iconst (.ofNat 61), .iload 5, .iadd, .iload 6, .iastore, .iload 7, .iload 4, .if_icmp .gt (.ofNat 4), .goto (.ofNat 5)]
def b259_4 : List Instr := [.iload 5, .istore 3, .iload 7, .istore 4, .jsr (.ofNat 5)]
def b259_5 : List Instr := [.iinc 5 (.ofNat 1), .goto (.ofNat 3)]
def b259_6 : List Instr := [.iload 2, .ifCond .ne (.ofNat 7), .iload 3, .goto (.ofNat 8)]
def b259_7 : List Instr := [.iload 4, .jsr (.ofNat 8)]
def b259_8 : List Instr := [.ireturn]
-- X12_hired
def b259 : Nat → List Instr := fun t => [b259_0, b259_1, b259_2, b259_3, b259_4, b259_5, b259_6, b259_7, b259_8].getD t []
def q259 : Nat → Nat := fun t => [0, 29, 32, 48, 111, 118, 124, 132, 134].getD t 0
def b260_0 : List Instr := [.iconst (.ofNat 0), .istore 3, .jsr (.ofNat 1)]
def b260_1 : List Instr := [.iload 3, .iconst (.ofNat 5), .if_icmp .ge (.ofNat 4), .aload 0, .fload 803, .iconst (.ofNat 2), .iconst (.ofNat 5), .iload 3, .imul, .iload 2, .iadd, .imul, .iaload, .aload 0, .fload 803, .iconst (.ofNat 2), .iconst (.ofNat 5), .iload 1, .imul, .iload 2, .iadd, .imul, .iaload, .if_icmp .gt (.ofNat 2), .aload 0, .fload 803, .iconst (.ofNat 2), .iconst (.ofNat 5), .iload 1, .imul, .iload 3, .iadd, .imul, .iconst (.ofNat 1), .iadd, .iaload, .aload 0, .fload 803, .iconst (.ofNat 2), .iconst (.ofNat 5), .iload 1, .imul, .iload 2, .iadd, .imul, .iconst (.ofNat 1), .iadd, .iaload, .if_icmp .le (.ofNat 3), .jsr (.ofNat 2)]
def b260_2 : List Instr := [.iconst (.ofNat 0), .ireturn]
def b260_3 : List Instr := [.iinc 3 (.ofNat 1), .goto (.ofNat 1)]
def b260_4 : List Instr := [.iconst (.ofNat 1), .ireturn]
-- X12_isRest
def b260 : Nat → List Instr := fun t => [b260_0, b260_1, b260_2, b260_3, b260_4].getD t []
def q260 : Nat → Nat := fun t => [0, 2, 65, 67, 73].getD t 0
def b261_0 : List Instr := [.aload 0, .iload 1, .invokevirtual 203, .ifCond .eq (.ofNat 1), .aload 0, .iload 2, .invokevirtual 203, .ifCond .eq (.ofNat 1), .iload 1, .iload 2, .if_icmp .eq (.ofNat 1), .iload 3, .i2l, .sipush (.ofNat 1), .sipush (.ofNat 20), .invokestatic 157, .ifCond .eq (.ofNat 1), .iload 4, .i2l, .sipush (.ofNat 0), .sipush (.ofNat 2), .invokestatic 157, .ifCond .ne (.ofNat 2), .jsr (.ofNat 1)]
def b261_1 : List Instr := [.iconst (.negSucc 0), .ireturn]
def b261_2 : List Instr := [.aload 0, .fload 788, .iconst (.ofNat 61), .iload 1, .iadd, .iaload, .istore 5, .aload 0, .fload 788, .iconst (.ofNat 61), .iload 2, .iadd, .iaload, .istore 6, .aload 0, .invokevirtual 231, .iconst (.ofNat 0), .istore 7, .jsr (.ofNat 3)]
def b261_3 : List Instr := [.iload 7, .iconst (.ofNat 25), .if_icmp .ge (.ofNat 6), .aload 0, .fload 788, .iconst (.ofNat 61), .iload 1, .iadd, .iload 7, .iconst (.ofNat 5), .idiv, .iastore, .aload 0, .fload 788, .iconst (.ofNat 61), .iload 2, .iadd, .iload 7, .iconst (.ofNat 5), .irem, .iastore, .iconst (.ofNat 0), .istore 8, .jsr (.ofNat 4)]
def b261_4 : List Instr := [.iload 8, .iload 3, .if_icmp .ge (.ofNat 5), .aload 0, .invokevirtual 223, .pop, .iinc 8 (.ofNat 1), .goto (.ofNat 4)]
def b261_5 : List Instr := [.aload 0, .fload 803, .iconst (.ofNat 2), .iload 7, .imul, .aload 0, .fload 788, .iconst (.ofNat 13), .iload 1, .iadd, .iaload, .iastore, .aload 0, .fload 803, .iconst (.ofNat 2), .iload 7, .imul, .iconst (.ofNat 1), .iadd, .aload 0, .fload 788, .iconst (.ofNat 13), .iload 2, .iadd, .iaload, .iastore, .aload 0, .invokevirtual 232, .iinc 7 (.ofNat 1), .goto (.ofNat 3)]
def b261_6 : List Instr := [.aload 0, .fload 788, .iconst (.ofNat 61), .iload 1, .iadd, .iload 5, .iastore, .aload 0, .fload 788, .iconst (.ofNat 61), .iload 2, .iadd, .iload 6, .iastore, .iconst (.ofNat 0), .istore 7, .iconst (.negSucc 0), .istore 8, .iconst (.ofNat 24), .istore 9, .jsr (.ofNat 7)]
def b261_7 : List Instr := [.iload 9, .ifCond .lt (.ofNat 10), .aload 0, .iload 9, .iconst (.ofNat 5), .idiv, .iload 9, .iconst (.ofNat 5), .irem, .invokevirtual 260, .ifCond .ne (.ofNat 8), .goto (.ofNat 9)]
def b261_8 : List Instr := [.iload 9, .istore 8, .iinc 7 (.ofNat 1), .jsr (.ofNat 9)]
def b261_9 : List Instr := [.iinc 9 (.negSucc 0), .goto (.ofNat 7)]
def b261_10 : List Instr := [.iload 4, .ifCond .ne (.ofNat 11), .iload 7, .ireturn]
def b261_11 : List Instr := [.iload 8, .ifCond .ge (.ofNat 12), .iconst (.negSucc 1), .goto (.ofNat 14)]
def b261_12 : List Instr := [.iload 4, .iconst (.ofNat 1), .if_icmp .ne (.ofNat 13), .iload 8, .iconst (.ofNat 5), .idiv, .goto (.ofNat 14)]
def b261_13 : List Instr := [.iload 8, .iconst (.ofNat 5), .irem, .jsr (.ofNat 14)]
def b261_14 : List Instr := [.ireturn]
-- X12_rests
def b261 : Nat → List Instr := fun t => [b261_0, b261_1, b261_2, b261_3, b261_4, b261_5, b261_6, b261_7, b261_8, b261_9, b261_10, b261_11, b261_12, b261_13, b261_14].getD t []
def q261 : Nat → Nat := fun t => [0, 46, 48, 77, 113, 130, 178, 210, 233, 240, 246, 254, 264, 277, 281].getD t 0
def b262_0 : List Instr := [.aload 0, .iload 1, .invokevirtual 205, .ifCond .eq (.ofNat 1), .aload 0, .iload 2, .invokevirtual 205, .ifCond .eq (.ofNat 1), .iload 1, .iload 2, .if_icmp .eq (.ofNat 1), .aload 0, .iload 2, .iload 2, .invokevirtual 209, .ifCond .eq (.ofNat 2), .jsr (.ofNat 1)]
def b262_1 : List Instr := [.iconst (.negSucc 0), .ireturn]
def b262_2 : List Instr := [.aload 0, .fload 788, .iconst (.ofNat 61), .iload 1, .iadd, .iaload, .istore 3, .iconst (.negSucc 1), .istore 4, .aload 0, .invokevirtual 231, .iconst (.ofNat 9), .istore 5, .jsr (.ofNat 3)]
def b262_3 : List Instr := [.iload 5, .ifCond .lt (.ofNat 5), .iload 4, .ifCond .ge (.ofNat 5), .aload 0, .fload 788, .iconst (.ofNat 61), .iload 1, .iadd, .iload 5, .iastore, .aload 0, .invokevirtual 223, .pop, .aload 0, .fload 791, .iload 2, .iaload, .iload 1, .if_icmp .ne (.ofNat 4), .iload 5, .istore 4, .jsr (.ofNat 4)]
def b262_4 : List Instr := [.aload 0, .invokevirtual 232, .iinc 5 (.negSucc 0), .goto (.ofNat 3)]
def b262_5 : List Instr := [.aload 0, .fload 788, .iconst (.ofNat 61), .iload 1, .iadd, .iload 3, .iastore, .iload 4, .ireturn]
-- X12_price
def b262 : Nat → List Instr := fun t => [b262_0, b262_1, b262_2, b262_3, b262_4, b262_5].getD t []
def q262 : Nat → Nat := fun t => [0, 30, 32, 54, 94, 104].getD t 0
def b263_0 : List Instr := [.iload 1, .iconst (.negSucc 0), .if_icmp .ne (.ofNat 1), .aload 0, .fload 788, .iconst (.ofNat 140), .iconst (.ofNat 0), .iastore, .iconst (.ofNat 0), .ireturn]
def b263_1 : List Instr := [.iload 1, .i2l, .sipush (.ofNat 0), .sipush (.ofNat 60), .invokestatic 157, .ifCond .eq (.ofNat 2), .aload 0, .iload 2, .invokevirtual 203, .ifCond .eq (.ofNat 2), .iload 3, .i2l, .sipush (.ofNat 0), .sipush (.ofNat 1), .invokestatic 157, .ifCond .eq (.ofNat 2), .aload 0, .fload 788, .iconst (.ofNat 140), .iaload, .iconst (.ofNat 10), .if_icmp .ne (.ofNat 3), .jsr (.ofNat 2)]
def b263_2 : List Instr := [.iconst (.negSucc 1), .ireturn]
def b263_3 : List Instr := [.iconst (.ofNat 110), .iconst (.ofNat 3), .aload 0, .fload 788, .iconst (.ofNat 140), .iaload, .imul, .iadd, .istore 4, .aload 0, .fload 788, .iload 4, .iload 1, .iastore, .aload 0, .fload 788, .iload 4, .iconst (.ofNat 1), .iadd, .iload 2, .iastore, .aload 0, .fload 788, .iload 4, .iconst (.ofNat 2), .iadd, .iload 3, .iastore, .aload 0, .fload 788, .iconst (.ofNat 140), .dup2, .iaload, .iconst (.ofNat 1), .iadd, .iastore, .aload 0, .fload 788, .iconst (.ofNat 140), .iaload, .ireturn]
-- X12_note
def b263 : Nat → List Instr := fun t => [b263_0, b263_1, b263_2, b263_3].getD t []
def q263 : Nat → Nat := fun t => [0, 16, 59, 62].getD t 0
def b264_0 : List Instr := [.iconst (.ofNat 61), .iload 0, .imul, .iload 1, .iadd, .ireturn]
-- X12_spot
def b264 : Nat → List Instr := fun t => [b264_0].getD t []
def q264 : Nat → Nat := fun t => [0].getD t 0
def b265_0 : List Instr := [.iconst (.ofNat 0), .istore 2, .jsr (.ofNat 1)]
def b265_1 : List Instr := [.iload 2, .iconst (.ofNat 3), .aload 0, .fload 788, .iconst (.ofNat 140), .iaload, .imul, .if_icmp .ge (.ofNat 3), .aload 0, .fload 805, .iload 1, .aload 0, .fload 788, .iconst (.ofNat 110), .iload 2, .iadd, .iaload, .invokestatic 264, .iaload, .aload 0, .fload 788, .iconst (.ofNat 110), .iload 2, .iadd, .iconst (.ofNat 1), .iadd, .iaload, .ishr, .iconst (.ofNat 1), .iand, .aload 0, .fload 788, .iconst (.ofNat 110), .iload 2, .iadd, .iconst (.ofNat 2), .iadd, .iaload, .if_icmp .eq (.ofNat 2), .iconst (.ofNat 0), .ireturn]
def b265_2 : List Instr := [.iinc 2 (.ofNat 3), .goto (.ofNat 1)]
def b265_3 : List Instr := [.iconst (.ofNat 1), .ireturn]
-- X12_areNotesSo
def b265 : Nat → List Instr := fun t => [b265_0, b265_1, b265_2, b265_3].getD t []
def q265 : Nat → Nat := fun t => [0, 2, 64, 70].getD t 0
def b266_0 : List Instr := [.aload 0, .getfield 789, .istore 1, .aload 0, .invokevirtual 231, .iconst (.ofNat 0), .istore 2, .jsr (.ofNat 1)]
def b266_1 : List Instr := [.iload 2, .aload 0, .getfield 770, .if_icmp .gt (.ofNat 4), .aload 0, .iload 2, .iconst (.ofNat 1), .isub, .putfield 789, .aload 0, .invokevirtual 212, .iconst (.ofNat 0), .istore 3, .jsr (.ofNat 2)]
def b266_2 : List Instr := [.iload 3, .iconst (.ofNat 60), .if_icmp .gt (.ofNat 3), .aload 0, .invokevirtual 223, .pop, .aload 0, .fload 805, .iload 2, .iload 3, .invokestatic 264, .aload 0, .fload 788, .iconst (.ofNat 12), .iaload, .iastore, .iinc 3 (.ofNat 1), .goto (.ofNat 2)]
def b266_3 : List Instr := [.aload 0, .fload 804, .iload 2, .aload 0, .iload 2, .invokevirtual 265, .bastore, .iinc 2 (.ofNat 1), .goto (.ofNat 1)]
def b266_4 : List Instr := [.aload 0, .iload 1, .putfield 789, .aload 0, .invokevirtual 232, .return_]
-- X12_fillsFits
def b266 : Nat → List Instr := fun t => [b266_0, b266_1, b266_2, b266_3, b266_4].getD t []
def q266 : Nat → Nat := fun t => [0, 11, 32, 66, 83].getD t 0
def b267_0 : List Instr := [.aload 0, .invokevirtual 202, .ifCond .eq (.ofNat 1), .iload 1, .i2l, .sipush (.ofNat 0), .sipush (.ofNat 1), .invokestatic 157, .ifCond .ne (.ofNat 2), .jsr (.ofNat 1)]
def b267_1 : List Instr := [.iconst (.negSucc 2), .ireturn]
def b267_2 : List Instr := [.aload 0, .invokevirtual 266, .iconst (.ofNat 0), .istore 2, .iconst (.negSucc 1), .istore 3, .aload 0, .getfield 770, .istore 4, .jsr (.ofNat 3)]
def b267_3 : List Instr := [.iload 4, .ifCond .lt (.ofNat 6), .aload 0, .fload 804, .iload 4, .baload, .ifCond .ne (.ofNat 4), .goto (.ofNat 5)]
def b267_4 : List Instr := [.iload 4, .iconst (.ofNat 1), .isub, .istore 3, .iinc 2 (.ofNat 1), .jsr (.ofNat 5)]
def b267_5 : List Instr := [.iinc 4 (.negSucc 0), .goto (.ofNat 3)]
def b267_6 : List Instr := [.iload 1, .ifCond .ne (.ofNat 7), .iload 2, .goto (.ofNat 8)]
def b267_7 : List Instr := [.iload 3, .jsr (.ofNat 8)]
def b267_8 : List Instr := [.ireturn]
-- X12_ruled
def b267 : Nat → List Instr := fun t => [b267_0, b267_1, b267_2, b267_3, b267_4, b267_5, b267_6, b267_7, b267_8].getD t []
def q267 : Nat → Nat := fun t => [0, 17, 20, 35, 53, 61, 67, 75, 76].getD t 0
def b268_0 : List Instr := [.iconst (.ofNat 0), .istore 2, .iconst (.ofNat 0), .istore 3, .jsr (.ofNat 1)]
def b268_1 : List Instr := [.iload 3, .aload 0, .getfield 770, .if_icmp .gt (.ofNat 8), .iconst (.ofNat 0), .istore 4, .iconst (.ofNat 0), .istore 5, .jsr (.ofNat 2)]
def b268_2 : List Instr := [.iload 5, .aload 0, .getfield 770, .if_icmp .gt (.ofNat 5), .aload 0, .fload 804, .iload 3, .baload, .ifCond .eq (.ofNat 5), .iload 4, .aload 0, .fload 804, .iload 5, .baload, .ifCond .eq (.ofNat 3), .aload 0, .fload 805, .iload 3, .iload 1, .invokestatic 264, .iaload, .aload 0, .fload 805, .iload 5, .iload 1, .invokestatic 264, .iaload, .if_icmp .ne (.ofNat 3), .iconst (.ofNat 1), .goto (.ofNat 4)]
def b268_3 : List Instr := [.iconst (.ofNat 0), .jsr (.ofNat 4)]
def b268_4 : List Instr := [.iadd, .istore 4, .iinc 5 (.ofNat 1), .goto (.ofNat 2)]
def b268_5 : List Instr := [.iload 4, .iload 2, .if_icmp .le (.ofNat 6), .iload 4, .goto (.ofNat 7)]
def b268_6 : List Instr := [.iload 2, .jsr (.ofNat 7)]
def b268_7 : List Instr := [.istore 2, .iinc 3 (.ofNat 1), .goto (.ofNat 1)]
def b268_8 : List Instr := [.iload 2, .ireturn]
-- X12_alikeAt
def b268 : Nat → List Instr := fun t => [b268_0, b268_1, b268_2, b268_3, b268_4, b268_5, b268_6, b268_7, b268_8].getD t []
def q268 : Nat → Nat := fun t => [0, 4, 18, 76, 77, 86, 97, 98, 105].getD t 0
def b269_0 : List Instr := [.aload 0, .invokevirtual 202, .ifCond .eq (.ofNat 1), .iload 1, .i2l, .sipush (.ofNat 0), .sipush (.ofNat 1), .invokestatic 157, .ifCond .ne (.ofNat 2), .jsr (.ofNat 1)]
def b269_1 : List Instr := [.iconst (.negSucc 0), .ireturn]
def b269_2 : List Instr := [.aload 0, .invokevirtual 266, .iconst (.ofNat 0), .istore 2, .iconst (.ofNat 1), .istore 3, .jsr (.ofNat 3)]
def b269_3 : List Instr := [.iload 3, .iconst (.ofNat 60), .if_icmp .gt (.ofNat 5), .aload 0, .iload 3, .invokevirtual 268, .aload 0, .iload 2, .invokevirtual 268, .if_icmp .ge (.ofNat 4), .iload 3, .istore 2, .jsr (.ofNat 4)]
def b269_4 : List Instr := [.iinc 3 (.ofNat 1), .goto (.ofNat 3)]
def b269_5 : List Instr := [.aload 0, .iload 2, .invokevirtual 268, .ifCond .ne (.ofNat 6), .iconst (.negSucc 1), .goto (.ofNat 8)]
def b269_6 : List Instr := [.iload 1, .ifCond .ne (.ofNat 7), .iload 2, .goto (.ofNat 8)]
def b269_7 : List Instr := [.aload 0, .iload 2, .invokevirtual 268, .jsr (.ofNat 8)]
def b269_8 : List Instr := [.ireturn]
-- X12_look
def b269 : Nat → List Instr := fun t => [b269_0, b269_1, b269_2, b269_3, b269_4, b269_5, b269_6, b269_7, b269_8].getD t []
def q269 : Nat → Nat := fun t => [0, 17, 19, 27, 48, 54, 67, 75, 80].getD t 0
def b270_0 : List Instr := [.iload 1, .ifCond .ge (.ofNat 1), .iconst (.negSucc 0), .ireturn]
def b270_1 : List Instr := [.aload 0, .getfield 790, .istore 2, .aload 0, .iload 1, .putfield 790, .iload 2, .ireturn]
-- X12_seed
def b270 : Nat → List Instr := fun t => [b270_0, b270_1].getD t []
def q270 : Nat → Nat := fun t => [0, 6].getD t 0
def b271_0 : List Instr := [.aload 0, .aload 0, .dload 806, .sipush (.ofNat 1103515245), .lmul, .sipush (.ofNat 12345), .ladd, .sipush (.ofNat 2147483648), .lrem, .dstore 806, .aload 0, .dload 806, .sipush (.ofNat 65536), .ldiv, .iload 1, .i2l, .lrem, .l2i, .ireturn]
-- X12_draw
def b271 : Nat → List Instr := fun t => [b271_0].getD t []
def q271 : Nat → Nat := fun t => [0].getD t 0
def b272_0 : List Instr := [.aload 0, .invokevirtual 202, .ifCond .eq (.ofNat 1), .iload 1, .i2l, .sipush (.ofNat 1), .sipush (.ofNat 10), .invokestatic 157, .ifCond .eq (.ofNat 1), .iload 2, .i2l, .sipush (.ofNat 1), .sipush (.ofNat 60), .invokestatic 157, .ifCond .eq (.ofNat 1), .iload 3, .i2l, .sipush (.ofNat 0), .sipush (.ofNat 100), .invokestatic 157, .ifCond .eq (.ofNat 1), .iload 4, .i2l, .sipush (.ofNat 0), .sipush (.ofNat 1), .invokestatic 157, .ifCond .ne (.ofNat 2), .jsr (.ofNat 1)]
def b272_1 : List Instr := [.iconst (.negSucc 0), .ireturn]
def b272_2 : List Instr := [.aload 0, .aload 0, .getfield 790, .i2l, .dstore 806, .iconst (.ofNat 0), .istore 5, .iconst (.ofNat 0), .istore 6, .aload 0, .invokevirtual 231, .iconst (.ofNat 0), .istore 7, .jsr (.ofNat 3)]
def b272_3 : List Instr := [.iload 7, .iload 1, .if_icmp .ge (.ofNat 7), .iconst (.ofNat 0), .istore 8, .jsr (.ofNat 4)]
def b272_4 : List Instr := [.iload 8, .iload 2, .if_icmp .ge (.ofNat 6), .aload 0, .iconst (.ofNat 100), .invokevirtual 271, .iload 3, .if_icmp .ge (.ofNat 5), .aload 0, .fload 788, .iconst (.ofNat 2), .iaload, .ifCond .le (.ofNat 5), .aload 0, .aload 0, .fload 788, .iconst (.ofNat 2), .iaload, .invokevirtual 271, .istore 9, .aload 0, .fload 788, .iconst (.ofNat 19), .iconst (.ofNat 6), .iload 9, .imul, .iadd, .iload 9, .iadd, .aload 0, .iconst (.ofNat 21), .invokevirtual 271, .iastore, .jsr (.ofNat 5)]
def b272_5 : List Instr := [.aload 0, .invokevirtual 223, .pop, .iinc 8 (.ofNat 1), .goto (.ofNat 4)]
def b272_6 : List Instr := [.iload 5, .aload 0, .fload 788, .iconst (.ofNat 12), .iaload, .invokestatic 159, .iadd, .istore 5, .iload 6, .aload 0, .aload 0, .fload 788, .iconst (.ofNat 12), .iaload, .invokevirtual 211, .iadd, .istore 6, .aload 0, .invokevirtual 232, .iinc 7 (.ofNat 1), .goto (.ofNat 3)]
def b272_7 : List Instr := [.iload 4, .ifCond .ne (.ofNat 8), .iload 5, .goto (.ofNat 9)]
def b272_8 : List Instr := [.iload 6, .jsr (.ofNat 9)]
def b272_9 : List Instr := [.ireturn]
-- X12_fairs
def b272 : Nat → List Instr := fun t => [b272_0, b272_1, b272_2, b272_3, b272_4, b272_5, b272_6, b272_7, b272_8, b272_9].getD t []
def q272 : Nat → Nat := fun t => [0, 54, 56, 78, 87, 146, 157, 198, 208, 210].getD t 0
def b273_0 : List Instr := [.iload 1, .tableswitch (.ofNat 12) 0 11 #[.ofNat 1, .ofNat 2, .ofNat 2, .ofNat 3, .ofNat 4, .ofNat 5, .ofNat 6, .ofNat 7, .ofNat 8, .ofNat 9, .ofNat 10, .ofNat 11]]
def b273_1 : List Instr := [.aload 0, .fload 788, .iconst (.ofNat 11), .iaload, .ireturn]
def b273_2 : List Instr := [.aload 0, .fload 788, .iload 1, .iaload, .ireturn]
def b273_3 : List Instr := [.aload 0, .getfield 770, .ireturn]
def b273_4 : List Instr := [.aload 0, .getfield 789, .ireturn]
def b273_5 : List Instr := [.aload 0, .fload 788, .iconst (.ofNat 10), .iaload, .ireturn]
def b273_6 : List Instr := [.aload 0, .fload 788, .iconst (.ofNat 12), .iaload, .ireturn]
def b273_7 : List Instr := [.aload 0, .aload 0, .invokevirtual 210, .iconst (.ofNat 1), .isub, .invokevirtual 211, .ireturn]
def b273_8 : List Instr := [.aload 0, .fload 788, .iconst (.ofNat 140), .iaload, .ireturn]
def b273_9 : List Instr := [.aload 0, .getfield 793, .ireturn]
def b273_10 : List Instr := [.aload 0, .getfield 790, .ireturn]
def b273_11 : List Instr := [.aload 0, .getfield 769, .ireturn]
def b273_12 : List Instr := [.iconst (.negSucc 0), .ireturn]
-- X12_count
def b273 : Nat → List Instr := fun t => [b273_0, b273_1, b273_2, b273_3, b273_4, b273_5, b273_6, b273_7, b273_8, b273_9, b273_10, b273_11, b273_12].getD t []
def q273 : Nat → Nat := fun t => [0, 64, 72, 79, 84, 89, 97, 105, 116, 125, 130, 135, 140].getD t 0
def b274_0 : List Instr := [.iload 1, .i2l, .sipush (.ofNat 0), .sipush (.ofNat 3), .invokestatic 157, .ifCond .ne (.ofNat 1), .iconst (.negSucc 0), .ireturn]
def b274_1 : List Instr := [.aload 0, .fload 810, .iload 1, .iconst (.ofNat 1), .bastore, .aload 0, .fload 808, .iload 1, .aload 0, .getfield 789, .iastore, .aload 0, .fload 809, .iload 1, .aload 0, .getfield 790, .iastore, .iconst (.ofNat 0), .istore 2, .jsr (.ofNat 2)]
def b274_2 : List Instr := [.iload 2, .iconst (.ofNat 141), .if_icmp .ge (.ofNat 3), .aload 0, .fload 807, .iconst (.ofNat 141), .iload 1, .imul, .iload 2, .iadd, .aload 0, .fload 788, .iload 2, .iaload, .iastore, .iinc 2 (.ofNat 1), .goto (.ofNat 2)]
def b274_3 : List Instr := [.aload 0, .fload 788, .iconst (.ofNat 10), .iaload, .ireturn]
-- X12_image
def b274 : Nat → List Instr := fun t => [b274_0, b274_1, b274_2, b274_3].getD t []
def q274 : Nat → Nat := fun t => [0, 14, 43, 74].getD t 0
def b275_0 : List Instr := [.iload 1, .i2l, .sipush (.ofNat 0), .sipush (.ofNat 3), .invokestatic 157, .ifCond .eq (.ofNat 1), .aload 0, .fload 810, .iload 1, .baload, .ifCond .ne (.ofNat 2), .jsr (.ofNat 1)]
def b275_1 : List Instr := [.iconst (.negSucc 0), .ireturn]
def b275_2 : List Instr := [.aload 0, .aload 0, .fload 808, .iload 1, .iaload, .putfield 789, .aload 0, .aload 0, .fload 809, .iload 1, .iaload, .putfield 790, .aload 0, .iconst (.ofNat 0), .putfield 793, .iconst (.ofNat 0), .istore 2, .jsr (.ofNat 3)]
def b275_3 : List Instr := [.iload 2, .iconst (.ofNat 141), .if_icmp .ge (.ofNat 4), .aload 0, .fload 788, .iload 2, .aload 0, .fload 807, .iconst (.ofNat 141), .iload 1, .imul, .iload 2, .iadd, .iaload, .iastore, .iinc 2 (.ofNat 1), .goto (.ofNat 3)]
def b275_4 : List Instr := [.aload 0, .fload 788, .iconst (.ofNat 10), .iaload, .ireturn]
-- X12_back
def b275 : Nat → List Instr := fun t => [b275_0, b275_1, b275_2, b275_3, b275_4].getD t []
def q275 : Nat → Nat := fun t => [0, 21, 23, 50, 81].getD t 0
def b276_0 : List Instr := [.iload 0, .iload 0, .iconst (.ofNat 1), .iushr, .iconst (.ofNat 1431655765), .iand, .isub, .istore 0, .iload 0, .iconst (.ofNat 858993459), .iand, .iload 0, .iconst (.ofNat 2), .iushr, .iconst (.ofNat 858993459), .iand, .iadd, .istore 0, .iload 0, .iload 0, .iconst (.ofNat 4), .iushr, .iadd, .iconst (.ofNat 252645135), .iand, .istore 0, .iload 0, .iload 0, .iconst (.ofNat 8), .iushr, .iadd, .istore 0, .iload 0, .iload 0, .iconst (.ofNat 16), .iushr, .iadd, .istore 0, .iload 0, .iconst (.ofNat 63), .iand, .ireturn]
-- J6_bitCount_0f7a4
def b276 : Nat → List Instr := fun t => [b276_0].getD t []
def q276 : Nat → Nat := fun t => [0].getD t 0
def b277_0 : List Instr := [.iload 0, .iload 1, .if_icmp .lt (.ofNat 1), .iload 0, .goto (.ofNat 2)]
def b277_1 : List Instr := [.iload 1, .jsr (.ofNat 2)]
def b277_2 : List Instr := [.ireturn]
-- J9_max_7cf53
def b277 : Nat → List Instr := fun t => [b277_0, b277_1, b277_2].getD t []
def q277 : Nat → Nat := fun t => [0, 9, 10].getD t 0
def b278_0 : List Instr := [.lload 0, .lload 2, .lcmp, .ifCond .lt (.ofNat 1), .lload 0, .goto (.ofNat 2)]
def b278_1 : List Instr := [.lload 2, .jsr (.ofNat 2)]
def b278_2 : List Instr := [.lreturn]
-- J9_max_f86c9
def b278 : Nat → List Instr := fun t => [b278_0, b278_1, b278_2].getD t []
def q278 : Nat → Nat := fun t => [0, 10, 11].getD t 0
def b279_0 : List Instr := [.iload 0, .iload 1, .if_icmp .gt (.ofNat 1), .iload 0, .goto (.ofNat 2)]
def b279_1 : List Instr := [.iload 1, .jsr (.ofNat 2)]
def b279_2 : List Instr := [.ireturn]
-- J9_min_7cf53
def b279 : Nat → List Instr := fun t => [b279_0, b279_1, b279_2].getD t []
def q279 : Nat → Nat := fun t => [0, 9, 10].getD t 0
def b280_0 : List Instr := [.iconst (.ofNat 0), .istore 2, .aload 0, .arraylength, .istore 3, .jsr (.ofNat 1)]
def b280_1 : List Instr := [.iload 2, .iload 3, .if_icmp .ge (.ofNat 2), .aload 0, .iload 2, .iload 1, .iastore, .iinc 2 (.ofNat 1), .goto (.ofNat 1)]
def b280_2 : List Instr := [.return_]
-- J7_fill_53178
def b280 : Nat → List Instr := fun t => [b280_0, b280_1, b280_2].getD t []
def q280 : Nat → Nat := fun t => [0, 5, 20].getD t 0
def b281_0 : List Instr := [.iload 1, .aload 0, .arraylength, .if_icmp .ne (.ofNat 1), .aload 0, .nop]
def b281_1 : List Instr := [.iload 1, .newarray .int, .astore 2, .aload 0, .iconst (.ofNat 0), .aload 2, .iconst (.ofNat 0), .aload 0, .arraylength, .iload 1, .invokestatic 279, .caload, .aload 2, .areturn]
-- J7_copyOf_59c91
def b281 : Nat → List Instr := fun t => [b281_0, b281_1].getD t []
def q281 : Nat → Nat := fun t => [0, 14].getD t 0
def bL_0 : List Instr := [.new 11, .dup, .invokespecial 117, .astore 1, .new 12, .dup, .invokespecial 156, .astore 2, .iconst (.ofNat 0), .istore 3, .jsr (.ofNat 1)]
def bL_1 : List Instr := [.iload 3, .aload 0, .arraylength, .iconst (.ofNat 6), .isub, .if_icmp .gt (.ofNat 37), .aload 0, .iload 3, .iaload, .iconst (.ofNat 63), .iand, .tableswitch (.ofNat 36) 0 33 #[.ofNat 2, .ofNat 3, .ofNat 4, .ofNat 5, .ofNat 6, .ofNat 7, .ofNat 8, .ofNat 9, .ofNat 10, .ofNat 11, .ofNat 12, .ofNat 13, .ofNat 14, .ofNat 15, .ofNat 16, .ofNat 17, .ofNat 18, .ofNat 19, .ofNat 20, .ofNat 21, .ofNat 22, .ofNat 23, .ofNat 24, .ofNat 25, .ofNat 26, .ofNat 27, .ofNat 28, .ofNat 29, .ofNat 30, .ofNat 31, .ofNat 32, .ofNat 33, .ofNat 34, .ofNat 35]]
def bL_2 : List Instr := [.aload 1, .aload 0, .iload 3, .iconst (.ofNat 1), .iadd, .iaload, .aload 0, .iload 3, .iconst (.ofNat 2), .iadd, .iaload, .aload 0, .iload 3, .iconst (.ofNat 3), .iadd, .iaload, .aload 0, .iload 3, .iconst (.ofNat 4), .iadd, .iaload, .aload 0, .iload 3, .iconst (.ofNat 5), .iadd, .iaload, .invokevirtual 118, .aload 2, .aload 0, .iload 3, .iconst (.ofNat 1), .iadd, .iaload, .aload 0, .iload 3, .iconst (.ofNat 2), .iadd, .iaload, .aload 0, .iload 3, .iconst (.ofNat 3), .iadd, .iaload, .aload 0, .iload 3, .iconst (.ofNat 4), .iadd, .iaload, .aload 0, .iload 3, .iconst (.ofNat 5), .iadd, .iaload, .invokevirtual 162, .if_icmp .eq (.ofNat 36), .iconst (.ofNat 0), .ireturn]
def bL_3 : List Instr := [.aload 1, .aload 0, .iload 3, .iconst (.ofNat 1), .iadd, .iaload, .invokevirtual 119, .aload 2, .aload 0, .iload 3, .iconst (.ofNat 1), .iadd, .iaload, .invokevirtual 163, .if_icmp .eq (.ofNat 36), .iconst (.ofNat 0), .ireturn]
def bL_4 : List Instr := [.aload 1, .invokevirtual 120, .aload 2, .invokevirtual 196, .if_icmp .eq (.ofNat 36), .iconst (.ofNat 0), .ireturn]
def bL_5 : List Instr := [.aload 1, .invokevirtual 121, .aload 2, .invokevirtual 195, .if_icmp .eq (.ofNat 36), .iconst (.ofNat 0), .ireturn]
def bL_6 : List Instr := [.aload 1, .aload 0, .iload 3, .iconst (.ofNat 1), .iadd, .iaload, .invokevirtual 122, .aload 2, .aload 0, .iload 3, .iconst (.ofNat 1), .iadd, .iaload, .invokevirtual 213, .if_icmp .eq (.ofNat 36), .iconst (.ofNat 0), .ireturn]
def bL_7 : List Instr := [.aload 1, .aload 0, .iload 3, .iconst (.ofNat 1), .iadd, .iaload, .aload 0, .iload 3, .iconst (.ofNat 2), .iadd, .iaload, .invokevirtual 123, .aload 2, .aload 0, .iload 3, .iconst (.ofNat 1), .iadd, .iaload, .aload 0, .iload 3, .iconst (.ofNat 2), .iadd, .iaload, .invokevirtual 214, .if_icmp .eq (.ofNat 36), .iconst (.ofNat 0), .ireturn]
def bL_8 : List Instr := [.aload 1, .aload 0, .iload 3, .iconst (.ofNat 1), .iadd, .iaload, .aload 0, .iload 3, .iconst (.ofNat 2), .iadd, .iaload, .invokevirtual 124, .aload 2, .aload 0, .iload 3, .iconst (.ofNat 1), .iadd, .iaload, .aload 0, .iload 3, .iconst (.ofNat 2), .iadd, .iaload, .invokevirtual 215, .if_icmp .eq (.ofNat 36), .iconst (.ofNat 0), .ireturn]
def bL_9 : List Instr := [.aload 1, .aload 0, .iload 3, .iconst (.ofNat 1), .iadd, .iaload, .aload 0, .iload 3, .iconst (.ofNat 2), .iadd, .iaload, .invokevirtual 125, .aload 2, .aload 0, .iload 3, .iconst (.ofNat 1), .iadd, .iaload, .aload 0, .iload 3, .iconst (.ofNat 2), .iadd, .iaload, .invokevirtual 216, .if_icmp .eq (.ofNat 36), .iconst (.ofNat 0), .ireturn]
def bL_10 : List Instr := [.aload 1, .invokevirtual 126, .aload 2, .invokevirtual 226, .if_icmp .eq (.ofNat 36), .iconst (.ofNat 0), .ireturn]
def bL_11 : List Instr := [.aload 1, .aload 0, .iload 3, .iconst (.ofNat 1), .iadd, .iaload, .aload 0, .iload 3, .iconst (.ofNat 2), .iadd, .iaload, .invokevirtual 127, .aload 2, .aload 0, .iload 3, .iconst (.ofNat 1), .iadd, .iaload, .aload 0, .iload 3, .iconst (.ofNat 2), .iadd, .iaload, .invokevirtual 227, .if_icmp .eq (.ofNat 36), .iconst (.ofNat 0), .ireturn]
def bL_12 : List Instr := [.aload 1, .aload 0, .iload 3, .iconst (.ofNat 1), .iadd, .iaload, .aload 0, .iload 3, .iconst (.ofNat 2), .iadd, .iaload, .aload 0, .iload 3, .iconst (.ofNat 3), .iadd, .iaload, .invokevirtual 128, .aload 2, .aload 0, .iload 3, .iconst (.ofNat 1), .iadd, .iaload, .aload 0, .iload 3, .iconst (.ofNat 2), .iadd, .iaload, .aload 0, .iload 3, .iconst (.ofNat 3), .iadd, .iaload, .invokevirtual 228, .if_icmp .eq (.ofNat 36), .iconst (.ofNat 0), .ireturn]
def bL_13 : List Instr := [.aload 1, .aload 0, .iload 3, .iconst (.ofNat 1), .iadd, .iaload, .aload 0, .iload 3, .iconst (.ofNat 2), .iadd, .iaload, .aload 0, .iload 3, .iconst (.ofNat 3), .iadd, .iaload, .invokevirtual 129, .aload 2, .aload 0, .iload 3, .iconst (.ofNat 1), .iadd, .iaload, .aload 0, .iload 3, .iconst (.ofNat 2), .iadd, .iaload, .aload 0, .iload 3, .iconst (.ofNat 3), .iadd, .iaload, .invokevirtual 229, .if_icmp .eq (.ofNat 36), .iconst (.ofNat 0), .ireturn]
def bL_14 : List Instr := [.aload 1, .aload 0, .iload 3, .iconst (.ofNat 1), .iadd, .iaload, .invokevirtual 130, .aload 2, .aload 0, .iload 3, .iconst (.ofNat 1), .iadd, .iaload, .invokevirtual 230, .if_icmp .eq (.ofNat 36), .iconst (.ofNat 0), .ireturn]
def bL_15 : List Instr := [.aload 1, .invokevirtual 131, .aload 2, .invokevirtual 225, .if_icmp .eq (.ofNat 36), .iconst (.ofNat 0), .ireturn]
def bL_16 : List Instr := [.aload 1, .aload 0, .iload 3, .iconst (.ofNat 1), .iadd, .iaload, .aload 0, .iload 3, .iconst (.ofNat 2), .iadd, .iaload, .aload 0, .iload 3, .iconst (.ofNat 3), .iadd, .iaload, .invokevirtual 132, .aload 2, .aload 0, .iload 3, .iconst (.ofNat 1), .iadd, .iaload, .aload 0, .iload 3, .iconst (.ofNat 2), .iadd, .iaload, .aload 0, .iload 3, .iconst (.ofNat 3), .iadd, .iaload, .invokevirtual 233, .if_icmp .eq (.ofNat 36), .iconst (.ofNat 0), .ireturn]
def bL_17 : List Instr := [.aload 1, .invokevirtual 133, .aload 2, .invokevirtual 234, .if_icmp .eq (.ofNat 36), .iconst (.ofNat 0), .ireturn]
def bL_18 : List Instr := [.aload 1, .aload 0, .iload 3, .iconst (.ofNat 1), .iadd, .iaload, .invokevirtual 134, .aload 2, .aload 0, .iload 3, .iconst (.ofNat 1), .iadd, .iaload, .invokevirtual 241, .if_icmp .eq (.ofNat 36), .iconst (.ofNat 0), .ireturn]
def bL_19 : List Instr := [.aload 1, .aload 0, .iload 3, .iconst (.ofNat 1), .iadd, .iaload, .invokevirtual 135, .aload 2, .aload 0, .iload 3, .iconst (.ofNat 1), .iadd, .iaload, .invokevirtual 247, .if_icmp .eq (.ofNat 36), .iconst (.ofNat 0), .ireturn]
def bL_20 : List Instr := [.aload 1, .aload 0, .iload 3, .iconst (.ofNat 1), .iadd, .iaload, .invokevirtual 136, .aload 2, .aload 0, .iload 3, .iconst (.ofNat 1), .iadd, .iaload, .invokevirtual 251, .if_icmp .eq (.ofNat 36), .iconst (.ofNat 0), .ireturn]
def bL_21 : List Instr := [.aload 1, .aload 0, .iload 3, .iconst (.ofNat 1), .iadd, .iaload, .invokevirtual 137, .aload 2, .aload 0, .iload 3, .iconst (.ofNat 1), .iadd, .iaload, .invokevirtual 254, .if_icmp .eq (.ofNat 36), .iconst (.ofNat 0), .ireturn]
def bL_22 : List Instr := [.aload 1, .aload 0, .iload 3, .iconst (.ofNat 1), .iadd, .iaload, .invokevirtual 138, .aload 2, .aload 0, .iload 3, .iconst (.ofNat 1), .iadd, .iaload, .invokevirtual 255, .if_icmp .eq (.ofNat 36), .iconst (.ofNat 0), .ireturn]
def bL_23 : List Instr := [.aload 1, .invokevirtual 139, .aload 2, .invokevirtual 256, .if_icmp .eq (.ofNat 36), .iconst (.ofNat 0), .ireturn]
def bL_24 : List Instr := [.aload 1, .aload 0, .iload 3, .iconst (.ofNat 1), .iadd, .iaload, .aload 0, .iload 3, .iconst (.ofNat 2), .iadd, .iaload, .invokevirtual 140, .aload 2, .aload 0, .iload 3, .iconst (.ofNat 1), .iadd, .iaload, .aload 0, .iload 3, .iconst (.ofNat 2), .iadd, .iaload, .invokevirtual 257, .if_icmp .eq (.ofNat 36), .iconst (.ofNat 0), .ireturn]
def bL_25 : List Instr := [.aload 1, .aload 0, .iload 3, .iconst (.ofNat 1), .iadd, .iaload, .aload 0, .iload 3, .iconst (.ofNat 2), .iadd, .iaload, .invokevirtual 141, .aload 2, .aload 0, .iload 3, .iconst (.ofNat 1), .iadd, .iaload, .aload 0, .iload 3, .iconst (.ofNat 2), .iadd, .iaload, .invokevirtual 259, .if_icmp .eq (.ofNat 36), .iconst (.ofNat 0), .ireturn]
def bL_26 : List Instr := [.aload 1, .aload 0, .iload 3, .iconst (.ofNat 1), .iadd, .iaload, .aload 0, .iload 3, .iconst (.ofNat 2), .iadd, .iaload, .aload 0, .iload 3, .iconst (.ofNat 3), .iadd, .iaload, .aload 0, .iload 3, .iconst (.ofNat 4), .iadd, .iaload, .invokevirtual 142, .aload 2, .aload 0, .iload 3, .iconst (.ofNat 1), .iadd, .iaload, .aload 0, .iload 3, .iconst (.ofNat 2), .iadd, .iaload, .aload 0, .iload 3, .iconst (.ofNat 3), .iadd, .iaload, .aload 0, .iload 3, .iconst (.ofNat 4), .iadd, .iaload, .invokevirtual 261, .if_icmp .eq (.ofNat 36), .iconst (.ofNat 0), .ireturn]
def bL_27 : List Instr := [.aload 1, .aload 0, .iload 3, .iconst (.ofNat 1), .iadd, .iaload, .aload 0, .iload 3, .iconst (.ofNat 2), .iadd, .iaload, .invokevirtual 143, .aload 2, .aload 0, .iload 3, .iconst (.ofNat 1), .iadd, .iaload, .aload 0, .iload 3, .iconst (.ofNat 2), .iadd, .iaload, .invokevirtual 262, .if_icmp .eq (.ofNat 36), .iconst (.ofNat 0), .ireturn]
def bL_28 : List Instr := [.aload 1, .aload 0, .iload 3, .iconst (.ofNat 1), .iadd, .iaload, .aload 0, .iload 3, .iconst (.ofNat 2), .iadd, .iaload, .aload 0, .iload 3, .iconst (.ofNat 3), .iadd, .iaload, .invokevirtual 144, .aload 2, .aload 0, .iload 3, .iconst (.ofNat 1), .iadd, .iaload, .aload 0, .iload 3, .iconst (.ofNat 2), .iadd, .iaload, .aload 0, .iload 3, .iconst (.ofNat 3), .iadd, .iaload, .invokevirtual 263, .if_icmp .eq (.ofNat 36), .iconst (.ofNat 0), .ireturn]
def bL_29 : List Instr := [.aload 1, .aload 0, .iload 3, .iconst (.ofNat 1), .iadd, .iaload, .invokevirtual 145, .aload 2, .aload 0, .iload 3, .iconst (.ofNat 1), .iadd, .iaload, .invokevirtual 267, .if_icmp .eq (.ofNat 36), .iconst (.ofNat 0), .ireturn]
def bL_30 : List Instr := [.aload 1, .aload 0, .iload 3, .iconst (.ofNat 1), .iadd, .iaload, .invokevirtual 146, .aload 2, .aload 0, .iload 3, .iconst (.ofNat 1), .iadd, .iaload, .invokevirtual 269, .if_icmp .eq (.ofNat 36), .iconst (.ofNat 0), .ireturn]
def bL_31 : List Instr := [.aload 1, .aload 0, .iload 3, .iconst (.ofNat 1), .iadd, .iaload, .invokevirtual 147, .aload 2, .aload 0, .iload 3, .iconst (.ofNat 1), .iadd, .iaload, .invokevirtual 270, .if_icmp .eq (.ofNat 36), .iconst (.ofNat 0), .ireturn]
def bL_32 : List Instr := [.aload 1, .aload 0, .iload 3, .iconst (.ofNat 1), .iadd, .iaload, .aload 0, .iload 3, .iconst (.ofNat 2), .iadd, .iaload, .aload 0, .iload 3, .iconst (.ofNat 3), .iadd, .iaload, .aload 0, .iload 3, .iconst (.ofNat 4), .iadd, .iaload, .invokevirtual 148, .aload 2, .aload 0, .iload 3, .iconst (.ofNat 1), .iadd, .iaload, .aload 0, .iload 3, .iconst (.ofNat 2), .iadd, .iaload, .aload 0, .iload 3, .iconst (.ofNat 3), .iadd, .iaload, .aload 0, .iload 3, .iconst (.ofNat 4), .iadd, .iaload, .invokevirtual 272, .if_icmp .eq (.ofNat 36), .iconst (.ofNat 0), .ireturn]
def bL_33 : List Instr := [.aload 1, .aload 0, .iload 3, .iconst (.ofNat 1), .iadd, .iaload, .invokevirtual 149, .aload 2, .aload 0, .iload 3, .iconst (.ofNat 1), .iadd, .iaload, .invokevirtual 273, .if_icmp .eq (.ofNat 36), .iconst (.ofNat 0), .ireturn]
def bL_34 : List Instr := [.aload 1, .aload 0, .iload 3, .iconst (.ofNat 1), .iadd, .iaload, .invokevirtual 150, .aload 2, .aload 0, .iload 3, .iconst (.ofNat 1), .iadd, .iaload, .invokevirtual 274, .if_icmp .eq (.ofNat 36), .iconst (.ofNat 0), .ireturn]
def bL_35 : List Instr := [.aload 1, .aload 0, .iload 3, .iconst (.ofNat 1), .iadd, .iaload, .invokevirtual 151, .aload 2, .aload 0, .iload 3, .iconst (.ofNat 1), .iadd, .iaload, .invokevirtual 275, .if_icmp .eq (.ofNat 36), .iconst (.ofNat 0), .ireturn]
def bL_36 : List Instr := [.iinc 3 (.ofNat 6), .goto (.ofNat 1)]
def bL_37 : List Instr := [.iconst (.ofNat 1), .ireturn]
-- L_law
def bL : Nat → List Instr := fun t => [bL_0, bL_1, bL_2, bL_3, bL_4, bL_5, bL_6, bL_7, bL_8, bL_9, bL_10, bL_11, bL_12, bL_13, bL_14, bL_15, bL_16, bL_17, bL_18, bL_19, bL_20, bL_21, bL_22, bL_23, bL_24, bL_25, bL_26, bL_27, bL_28, bL_29, bL_30, bL_31, bL_32, bL_33, bL_34, bL_35, bL_36, bL_37].getD t []
def qL : Nat → Nat := fun t => [0, 18, 184, 247, 270, 283, 296, 319, 352, 385, 418, 431, 464, 507, 550, 573, 586, 629, 642, 665, 688, 711, 734, 757, 770, 803, 836, 889, 922, 965, 988, 1011, 1034, 1087, 1110, 1133, 1156, 1162].getD t 0
