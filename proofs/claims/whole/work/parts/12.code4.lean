def b144_0 : List Instr := [.iload 1, .iconst (.negSucc 0), .if_icmp .ne (.ofNat 1), .aload 0, .fload 709, .iconst (.ofNat 0), .putfield 454, .iconst (.ofNat 0), .ireturn]
def b144_1 : List Instr := [.aload 0, .fload 709, .fload 450, .iload 2, .invokevirtual 100, .ifCond .eq (.ofNat 2), .iload 1, .iconst (.ofNat 0), .iconst (.ofNat 60), .invokestatic 155, .ifCond .eq (.ofNat 2), .iload 3, .iconst (.ofNat 0), .iconst (.ofNat 1), .invokestatic 155, .ifCond .eq (.ofNat 2), .aload 0, .fload 709, .invokevirtual 66, .ifCond .ne (.ofNat 3), .jsr (.ofNat 2)]
def b144_2 : List Instr := [.iconst (.negSucc 1), .ireturn]
def b144_3 : List Instr := [.aload 0, .fload 709, .iload 1, .iload 2, .iload 3, .invokevirtual 67, .aload 0, .fload 709, .getfield 454, .ireturn]
-- X11_note
def b144 : Nat → List Instr := fun t => [b144_0, b144_1, b144_2, b144_3].getD t []
def q144 : Nat → Nat := fun t => [0, 15, 58, 61].getD t 0
def b145_0 : List Instr := [.aload 0, .fload 709, .fload 450, .getfield 640, .ifCond .eq (.ofNat 1), .iload 1, .iconst (.ofNat 0), .iconst (.ofNat 1), .invokestatic 155, .ifCond .ne (.ofNat 2), .jsr (.ofNat 1)]
def b145_1 : List Instr := [.iconst (.negSucc 2), .ireturn]
def b145_2 : List Instr := [.aload 0, .fload 715, .aload 0, .fload 709, .aload 0, .fload 707, .aload 0, .getfield 708, .invokevirtual 15, .iload 1, .ifCond .ne (.ofNat 3), .aload 0, .fload 715, .invokevirtual 18, .goto (.ofNat 4)]
def b145_3 : List Instr := [.aload 0, .fload 715, .invokevirtual 19, .jsr (.ofNat 4)]
def b145_4 : List Instr := [.ireturn]
-- X11_ruled
def b145 : Nat → List Instr := fun t => [b145_0, b145_1, b145_2, b145_3, b145_4].getD t []
def q145 : Nat → Nat := fun t => [0, 22, 25, 58, 65].getD t 0
def b146_0 : List Instr := [.aload 0, .fload 709, .fload 450, .getfield 640, .ifCond .eq (.ofNat 1), .iload 1, .iconst (.ofNat 0), .iconst (.ofNat 1), .invokestatic 155, .ifCond .ne (.ofNat 2), .jsr (.ofNat 1)]
def b146_1 : List Instr := [.iconst (.negSucc 0), .ireturn]
def b146_2 : List Instr := [.aload 0, .fload 715, .aload 0, .fload 709, .aload 0, .fload 707, .aload 0, .getfield 708, .invokevirtual 15, .aload 0, .fload 715, .iload 1, .invokevirtual 20, .ireturn]
-- X11_look
def b146 : Nat → List Instr := fun t => [b146_0, b146_1, b146_2].getD t []
def q146 : Nat → Nat := fun t => [0, 22, 24].getD t 0
def b147_0 : List Instr := [.iload 1, .ifCond .ge (.ofNat 1), .iconst (.negSucc 0), .ireturn]
def b147_1 : List Instr := [.aload 0, .fload 709, .getfield 455, .istore 2, .aload 0, .fload 709, .iload 1, .putfield 455, .iload 2, .ireturn]
-- X11_seed
def b147 : Nat → List Instr := fun t => [b147_0, b147_1].getD t []
def q147 : Nat → Nat := fun t => [0, 6].getD t 0
def b148_0 : List Instr := [.aload 0, .fload 709, .fload 450, .getfield 640, .ifCond .eq (.ofNat 1), .iload 1, .iconst (.ofNat 1), .iconst (.ofNat 10), .invokestatic 155, .ifCond .eq (.ofNat 1), .iload 2, .iconst (.ofNat 1), .iconst (.ofNat 60), .invokestatic 155, .ifCond .ne (.ofNat 2), .jsr (.ofNat 1)]
def b148_1 : List Instr := [.iconst (.negSucc 0), .ireturn]
def b148_2 : List Instr := [.iload 3, .iconst (.ofNat 0), .iconst (.ofNat 100), .invokestatic 155, .ifCond .eq (.ofNat 3), .iload 4, .iconst (.ofNat 0), .iconst (.ofNat 1), .invokestatic 155, .ifCond .ne (.ofNat 4), .jsr (.ofNat 3)]
def b148_3 : List Instr := [.iconst (.negSucc 0), .ireturn]
def b148_4 : List Instr := [.aload 0, .fload 714, .aload 0, .fload 709, .getfield 455, .putfield 580, .aload 0, .fload 714, .aload 0, .fload 709, .fload 450, .aload 0, .invokevirtual 152, .iload 1, .iload 2, .iload 3, .invokevirtual 93, .iload 4, .ifCond .ne (.ofNat 5), .aload 0, .fload 714, .getfield 578, .goto (.ofNat 6)]
def b148_5 : List Instr := [.aload 0, .fload 714, .getfield 579, .jsr (.ofNat 6)]
def b148_6 : List Instr := [.ireturn]
-- X11_fairs
def b148 : Nat → List Instr := fun t => [b148_0, b148_1, b148_2, b148_3, b148_4, b148_5, b148_6].getD t []
def q148 : Nat → Nat := fun t => [0, 33, 35, 55, 57, 107, 114].getD t 0
def b149_0 : List Instr := [.aload 0, .fload 709, .fload 450, .astore 2, .iload 1, .tableswitch (.ofNat 13) 0 11 #[.ofNat 1, .ofNat 2, .ofNat 3, .ofNat 4, .ofNat 5, .ofNat 6, .ofNat 7, .ofNat 8, .ofNat 9, .ofNat 10, .ofNat 11, .ofNat 12]]
def b149_1 : List Instr := [.aload 2, .getfield 641, .ireturn]
def b149_2 : List Instr := [.aload 2, .getfield 642, .ireturn]
def b149_3 : List Instr := [.aload 2, .getfield 643, .ireturn]
def b149_4 : List Instr := [.aload 0, .getfield 708, .ireturn]
def b149_5 : List Instr := [.aload 0, .fload 709, .getfield 456, .ireturn]
def b149_6 : List Instr := [.aload 2, .getfield 644, .ireturn]
def b149_7 : List Instr := [.aload 2, .getfield 645, .ireturn]
def b149_8 : List Instr := [.aload 2, .aload 2, .invokevirtual 101, .invokevirtual 116, .ireturn]
def b149_9 : List Instr := [.aload 0, .fload 709, .getfield 454, .ireturn]
def b149_10 : List Instr := [.aload 0, .fload 711, .getfield 194, .ireturn]
def b149_11 : List Instr := [.aload 0, .fload 709, .getfield 455, .ireturn]
def b149_12 : List Instr := [.aload 0, .fload 704, .getfield 513, .ireturn]
def b149_13 : List Instr := [.iconst (.negSucc 0), .ireturn]
-- X11_count
def b149 : Nat → List Instr := fun t => [b149_0, b149_1, b149_2, b149_3, b149_4, b149_5, b149_6, b149_7, b149_8, b149_9, b149_10, b149_11, b149_12, b149_13].getD t []
def q149 : Nat → Nat := fun t => [0, 72, 77, 82, 87, 92, 100, 105, 110, 119, 127, 135, 143, 151].getD t 0
def b150_0 : List Instr := [.iload 1, .iconst (.ofNat 0), .iconst (.ofNat 3), .invokestatic 155, .ifCond .ne (.ofNat 1), .iconst (.negSucc 0), .ireturn]
def b150_1 : List Instr := [.aload 0, .fload 710, .iload 1, .aaload, .aload 0, .fload 709, .invokevirtual 65, .aload 0, .fload 710, .iload 1, .aaload, .iconst (.ofNat 1), .putfield 448, .aload 0, .fload 709, .fload 450, .getfield 644, .ireturn]
-- X11_image
def b150 : Nat → List Instr := fun t => [b150_0, b150_1].getD t []
def q150 : Nat → Nat := fun t => [0, 11].getD t 0
def b151_0 : List Instr := [.iload 1, .iconst (.ofNat 0), .iconst (.ofNat 3), .invokestatic 155, .ifCond .eq (.ofNat 1), .aload 0, .fload 710, .iload 1, .aaload, .getfield 448, .ifCond .ne (.ofNat 2), .jsr (.ofNat 1)]
def b151_1 : List Instr := [.iconst (.negSucc 0), .ireturn]
def b151_2 : List Instr := [.aload 0, .fload 709, .aload 0, .fload 710, .iload 1, .aaload, .invokevirtual 65, .aload 0, .fload 711, .invokevirtual 23, .aload 0, .fload 709, .fload 450, .getfield 644, .ireturn]
-- X11_back
def b151 : Nat → List Instr := fun t => [b151_0, b151_1, b151_2].getD t []
def q151 : Nat → Nat := fun t => [0, 21, 23].getD t 0
def b152_0 : List Instr := [.aload 0, .fload 709, .getfield 456, .istore 1, .iload 1, .ifCond .lt (.ofNat 1), .iload 1, .aload 0, .getfield 708, .if_icmp .ge (.ofNat 1), .aload 0, .fload 707, .iload 1, .aaload, .goto (.ofNat 2)]
def b152_1 : List Instr := [.aconst_null, .jsr (.ofNat 2)]
def b152_2 : List Instr := [.areturn]
-- X11_ruleInForce
def b152 : Nat → List Instr := fun t => [b152_0, b152_1, b152_2].getD t []
def q152 : Nat → Nat := fun t => [0, 29, 30].getD t 0
def b153_0 : List Instr := [.aload 0, .fload 709, .fload 450, .iload 1, .invokevirtual 100, .ifCond .eq (.ofNat 1), .aload 0, .fload 709, .fload 450, .iload 2, .invokevirtual 100, .ifCond .eq (.ofNat 1), .iconst (.ofNat 1), .goto (.ofNat 2)]
def b153_1 : List Instr := [.iconst (.ofNat 0), .jsr (.ofNat 2)]
def b153_2 : List Instr := [.ireturn]
-- X11_hasBoth
def b153 : Nat → List Instr := fun t => [b153_0, b153_1, b153_2].getD t []
def q153 : Nat → Nat := fun t => [0, 32, 33].getD t 0
def b154_0 : List Instr := [.iload 1, .iload 2, .if_icmp .eq (.ofNat 1), .aload 0, .iload 1, .iload 2, .invokevirtual 153, .ifCond .eq (.ofNat 1), .iconst (.ofNat 1), .goto (.ofNat 2)]
def b154_1 : List Instr := [.iconst (.ofNat 0), .jsr (.ofNat 2)]
def b154_2 : List Instr := [.ireturn]
-- X11_hasTwo
def b154 : Nat → List Instr := fun t => [b154_0, b154_1, b154_2].getD t []
def q154 : Nat → Nat := fun t => [0, 18, 19].getD t 0
def b155_0 : List Instr := [.iload 0, .iload 1, .if_icmp .lt (.ofNat 1), .iload 0, .iload 2, .if_icmp .gt (.ofNat 1), .iconst (.ofNat 1), .goto (.ofNat 2)]
def b155_1 : List Instr := [.iconst (.ofNat 0), .jsr (.ofNat 2)]
def b155_2 : List Instr := [.ireturn]
-- X11_within
def b155 : Nat → List Instr := fun t => [b155_0, b155_1, b155_2].getD t []
def q155 : Nat → Nat := fun t => [0, 14, 15].getD t 0
def b156_0 : List Instr := [.aload 0, .monitorenter, .aload 0, .iconst (.ofNat 400), .newarray .byte, .fstore 768, .aload 0, .iconst (.ofNat 2400), .newarray .int, .fstore 771, .aload 0, .iconst (.ofNat 7), .newarray .int, .fstore 772, .aload 0, .iconst (.ofNat 288), .newarray .int, .fstore 773, .aload 0, .iconst (.ofNat 6), .newarray .int, .fstore 774, .aload 0, .iconst (.ofNat 110), .newarray .int, .fstore 775, .aload 0, .iconst (.ofNat 400), .newarray .int, .fstore 783, .aload 0, .iconst (.ofNat 64), .newarray .long, .fstore 785, .aload 0, .iconst (.ofNat 12), .newarray .long, .fstore 787, .aload 0, .iconst (.ofNat 141), .newarray .int, .fstore 788, .aload 0, .iconst (.negSucc 0), .putfield 789, .aload 0, .iconst (.ofNat 6), .newarray .int, .fstore 791, .aload 0, .iconst (.ofNat 900), .newarray .int, .fstore 792, .aload 0, .iconst (.ofNat 45), .newarray .int, .fstore 794, .aload 0, .iconst (.ofNat 7), .newarray .int, .fstore 795, .aload 0, .iconst (.ofNat 7), .newarray .int, .fstore 796, .aload 0, .iconst (.ofNat 7), .newarray .int, .fstore 797, .aload 0, .iconst (.ofNat 7), .newarray .boolean, .fstore 800, .aload 0, .iconst (.ofNat 64), .newarray .int, .fstore 801, .aload 0, .iconst (.ofNat 7), .newarray .int, .fstore 802, .aload 0, .iconst (.ofNat 50), .newarray .int, .fstore 803, .aload 0, .iconst (.ofNat 7), .newarray .boolean, .fstore 804, .aload 0, .iconst (.ofNat 427), .newarray .int, .fstore 805, .aload 0, .iconst (.ofNat 564), .newarray .int, .fstore 807, .aload 0, .iconst (.ofNat 4), .newarray .int, .fstore 808, .aload 0, .iconst (.ofNat 4), .newarray .int, .fstore 809, .aload 0, .iconst (.ofNat 4), .newarray .boolean, .fstore 810, .return_]
-- X12_init
def b156 : Nat → List Instr := fun t => [b156_0].getD t []
def q156 : Nat → Nat := fun t => [0].getD t 0
def b157_0 : List Instr := [.lload 0, .lload 2, .lcmp, .ifCond .lt (.ofNat 1), .lload 0, .lload 4, .lcmp, .ifCond .gt (.ofNat 1), .iconst (.ofNat 1), .goto (.ofNat 2)]
def b157_1 : List Instr := [.iconst (.ofNat 0), .jsr (.ofNat 2)]
def b157_2 : List Instr := [.ireturn]
-- X12_in
def b157 : Nat → List Instr := fun t => [b157_0, b157_1, b157_2].getD t []
def q157 : Nat → Nat := fun t => [0, 17, 18].getD t 0
def b158_0 : List Instr := [.iload 0, .iload 1, .ishr, .iconst (.ofNat 1), .iand, .iconst (.ofNat 1), .if_icmp .ne (.ofNat 1), .iconst (.ofNat 1), .goto (.ofNat 2)]
def b158_1 : List Instr := [.iconst (.ofNat 0), .jsr (.ofNat 2)]
def b158_2 : List Instr := [.ireturn]
-- X12_isOf
def b158 : Nat → List Instr := fun t => [b158_0, b158_1, b158_2].getD t []
def q158 : Nat → Nat := fun t => [0, 13, 14].getD t 0
def b159_0 : List Instr := [.iconst (.ofNat 0), .istore 1, .iload 0, .istore 2, .jsr (.ofNat 1)]
def b159_1 : List Instr := [.iload 2, .ifCond .eq (.ofNat 2), .iinc 1 (.ofNat 1), .iload 2, .iload 2, .iconst (.ofNat 1), .isub, .iand, .istore 2, .goto (.ofNat 1)]
def b159_2 : List Instr := [.iload 1, .ireturn]
-- X12_bits
def b159 : Nat → List Instr := fun t => [b159_0, b159_1, b159_2].getD t []
def q159 : Nat → Nat := fun t => [0, 4, 20].getD t 0
def b160_0 : List Instr := [.iload 0, .iload 1, .if_icmp .le (.ofNat 1), .iload 1, .goto (.ofNat 2)]
def b160_1 : List Instr := [.iload 0, .jsr (.ofNat 2)]
def b160_2 : List Instr := [.ireturn]
-- X12_atMost
def b160 : Nat → List Instr := fun t => [b160_0, b160_1, b160_2].getD t []
def q160 : Nat → Nat := fun t => [0, 9, 10].getD t 0
def b161_0 : List Instr := [.iconst (.ofNat 24), .istore 2, .jsr (.ofNat 1)]
def b161_1 : List Instr := [.iload 2, .ifCond .lt (.ofNat 2), .aload 0, .fload 768, .aload 0, .getfield 769, .iload 1, .iload 2, .ishr, .i2b, .bastore, .aload 0, .dup, .getfield 769, .iconst (.ofNat 1), .iadd, .putfield 769, .iinc 2 (.negSucc 7), .goto (.ofNat 1)]
def b161_2 : List Instr := [.return_]
-- X12_four
def b161 : Nat → List Instr := fun t => [b161_0, b161_1, b161_2].getD t []
def q161 : Nat → Nat := fun t => [0, 3, 36].getD t 0
def b162_0 : List Instr := [.aload 0, .getfield 769, .iconst (.ofNat 20), .iadd, .iconst (.ofNat 400), .if_icmp .le (.ofNat 1), .iconst (.negSucc 0), .ireturn]
def b162_1 : List Instr := [.aload 0, .iload 1, .invokevirtual 161, .aload 0, .iload 2, .invokevirtual 161, .aload 0, .iload 3, .invokevirtual 161, .aload 0, .iload 4, .invokevirtual 161, .aload 0, .iload 5, .invokevirtual 161, .aload 0, .getfield 769, .ireturn]
-- X12_feed
def b162 : Nat → List Instr := fun t => [b162_0, b162_1].getD t []
def q162 : Nat → Nat := fun t => [0, 15].getD t 0
def b163_0 : List Instr := [.iload 1, .ifCond .lt (.ofNat 1), .iload 1, .aload 0, .getfield 769, .if_icmp .le (.ofNat 2), .jsr (.ofNat 1)]
def b163_1 : List Instr := [.iconst (.negSucc 0), .ireturn]
def b163_2 : List Instr := [.aload 0, .iload 1, .putfield 769, .iload 1, .ireturn]
-- X12_end
def b163 : Nat → List Instr := fun t => [b163_0, b163_1, b163_2].getD t []
def q163 : Nat → Nat := fun t => [0, 12, 14].getD t 0
def b164_0 : List Instr := [.aload 0, .getfield 777, .ifCond .ne (.ofNat 1), .aload 0, .iconst (.ofNat 1), .iconst (.ofNat 8), .iload 2, .imul, .iadd, .iload 1, .iadd, .putfield 777, .jsr (.ofNat 1)]
def b164_1 : List Instr := [.iconst (.ofNat 0), .ireturn]
-- X12_fails
def b164 : Nat → List Instr := fun t => [b164_0, b164_1].getD t []
def q164 : Nat → Nat := fun t => [0, 19].getD t 0
def b165_0 : List Instr := [.aload 0, .getfield 776, .aload 0, .getfield 769, .if_icmp .ge (.ofNat 1), .aload 0, .fload 768, .aload 0, .getfield 776, .baload, .iconst (.ofNat 32), .if_icmp .ne (.ofNat 1), .aload 0, .dup, .getfield 776, .iconst (.ofNat 1), .iadd, .putfield 776, .goto (.ofNat 0)]
def b165_1 : List Instr := [.aload 0, .getfield 776, .aload 0, .getfield 769, .if_icmp .ge (.ofNat 2), .aload 0, .fload 768, .aload 0, .getfield 776, .baload, .iconst (.ofNat 255), .iand, .goto (.ofNat 3)]
def b165_2 : List Instr := [.iconst (.negSucc 0), .jsr (.ofNat 3)]
def b165_3 : List Instr := [.ireturn]
-- X12_see
def b165 : Nat → List Instr := fun t => [b165_0, b165_1, b165_2, b165_3].getD t []
def q165 : Nat → Nat := fun t => [0, 38, 65, 66].getD t 0
def b166_0 : List Instr := [.iload 1, .aload 0, .getfield 769, .if_icmp .ge (.ofNat 1), .aload 0, .fload 768, .iload 1, .baload, .iconst (.ofNat 48), .if_icmp .lt (.ofNat 1), .aload 0, .fload 768, .iload 1, .baload, .iconst (.ofNat 57), .if_icmp .gt (.ofNat 1), .iconst (.ofNat 1), .goto (.ofNat 2)]
def b166_1 : List Instr := [.iconst (.ofNat 0), .jsr (.ofNat 2)]
def b166_2 : List Instr := [.ireturn]
-- X12_isDigit
def b166 : Nat → List Instr := fun t => [b166_0, b166_1, b166_2].getD t []
def q166 : Nat → Nat := fun t => [0, 34, 35].getD t 0
def b167_0 : List Instr := [.iload 1, .aload 0, .getfield 769, .if_icmp .ge (.ofNat 1), .aload 0, .fload 768, .iload 1, .baload, .iconst (.ofNat 97), .if_icmp .lt (.ofNat 1), .aload 0, .fload 768, .iload 1, .baload, .iconst (.ofNat 122), .if_icmp .gt (.ofNat 1), .iconst (.ofNat 1), .goto (.ofNat 2)]
def b167_1 : List Instr := [.iconst (.ofNat 0), .jsr (.ofNat 2)]
def b167_2 : List Instr := [.ireturn]
-- X12_isLetter
def b167 : Nat → List Instr := fun t => [b167_0, b167_1, b167_2].getD t []
def q167 : Nat → Nat := fun t => [0, 34, 35].getD t 0
def b168_0 : List Instr := [.aload 0, .invokevirtual 165, .pop, .sipush (.ofNat 0), .lstore 3, .iconst (.ofNat 0), .istore 5, .jsr (.ofNat 1)]
def b168_1 : List Instr := [.aload 0, .aload 0, .getfield 776, .iload 5, .iadd, .invokevirtual 167, .ifCond .eq (.ofNat 3), .iload 5, .iconst (.ofNat 8), .if_icmp .ge (.ofNat 2), .lload 3, .iconst (.ofNat 8), .lshl, .aload 0, .fload 768, .aload 0, .getfield 776, .iload 5, .iadd, .baload, .i2l, .lor, .lstore 3, .jsr (.ofNat 2)]
def b168_2 : List Instr := [.iinc 5 (.ofNat 1), .goto (.ofNat 1)]
def b168_3 : List Instr := [.iload 5, .ifCond .le (.ofNat 4), .iload 5, .iconst (.ofNat 8), .if_icmp .ge (.ofNat 4), .lload 3, .lload 1, .lcmp, .ifCond .ne (.ofNat 4), .iconst (.ofNat 1), .goto (.ofNat 5)]
def b168_4 : List Instr := [.iconst (.ofNat 0), .jsr (.ofNat 5)]
def b168_5 : List Instr := [.ireturn]
-- X12_isWord
def b168 : Nat → List Instr := fun t => [b168_0, b168_1, b168_2, b168_3, b168_4, b168_5].getD t []
def q168 : Nat → Nat := fun t => [0, 10, 50, 56, 78, 79].getD t 0
def b169_0 : List Instr := [.aload 0, .aload 0, .getfield 776, .invokevirtual 167, .ifCond .eq (.ofNat 1), .aload 0, .dup, .getfield 776, .iconst (.ofNat 1), .iadd, .putfield 776, .goto (.ofNat 0)]
def b169_1 : List Instr := [.return_]
-- X12_passWord
def b169 : Nat → List Instr := fun t => [b169_0, b169_1].getD t []
def q169 : Nat → Nat := fun t => [0, 24].getD t 0
def b170_0 : List Instr := [.aload 0, .lload 1, .invokevirtual 168, .ifCond .ne (.ofNat 1), .iconst (.ofNat 0), .ireturn]
def b170_1 : List Instr := [.aload 0, .invokevirtual 169, .iconst (.ofNat 1), .ireturn]
-- X12_takesWord
def b170 : Nat → List Instr := fun t => [b170_0, b170_1].getD t []
def q170 : Nat → Nat := fun t => [0, 10].getD t 0
def b171_0 : List Instr := [.aload 0, .invokevirtual 165, .pop, .aload 0, .aload 0, .getfield 776, .invokevirtual 166, .ifCond .ne (.ofNat 1), .aload 0, .iconst (.ofNat 0), .aload 0, .getfield 776, .invokevirtual 164, .ireturn]
def b171_1 : List Instr := [.aload 0, .getfield 776, .istore 3, .iconst (.ofNat 0), .istore 4, .jsr (.ofNat 2)]
def b171_2 : List Instr := [.aload 0, .aload 0, .getfield 776, .invokevirtual 166, .ifCond .eq (.ofNat 4), .aload 0, .getfield 776, .iload 3, .isub, .iconst (.ofNat 5), .if_icmp .ge (.ofNat 3), .iconst (.ofNat 10), .iload 4, .imul, .aload 0, .fload 768, .aload 0, .getfield 776, .baload, .iadd, .iconst (.ofNat 48), .isub, .istore 4, .jsr (.ofNat 3)]
def b171_3 : List Instr := [.aload 0, .dup, .getfield 776, .iconst (.ofNat 1), .iadd, .putfield 776, .goto (.ofNat 2)]
def b171_4 : List Instr := [.aload 0, .iload 4, .putfield 778, .aload 0, .getfield 776, .iload 3, .isub, .iconst (.ofNat 5), .if_icmp .gt (.ofNat 5), .iload 4, .i2l, .iload 1, .i2l, .iload 2, .i2l, .invokestatic 157, .ifCond .ne (.ofNat 6), .jsr (.ofNat 5)]
def b171_5 : List Instr := [.aload 0, .iconst (.ofNat 1), .iload 3, .invokevirtual 164, .ifCond .eq (.ofNat 7), .jsr (.ofNat 6)]
def b171_6 : List Instr := [.iconst (.ofNat 1), .goto (.ofNat 8)]
def b171_7 : List Instr := [.iconst (.ofNat 0), .jsr (.ofNat 8)]
def b171_8 : List Instr := [.ireturn]
-- X12_numberHere
def b171 : Nat → List Instr := fun t => [b171_0, b171_1, b171_2, b171_3, b171_4, b171_5, b171_6, b171_7, b171_8].getD t []
def q171 : Nat → Nat := fun t => [0, 26, 34, 75, 88, 117, 126, 130, 131].getD t 0
def b172_0 : List Instr := [.aload 0, .sipush (.ofNat 123581014175598), .invokevirtual 168, .ifCond .eq (.ofNat 1), .iconst (.ofNat 0), .ireturn]
def b172_1 : List Instr := [.aload 0, .sipush (.ofNat 2003399784), .invokevirtual 168, .ifCond .eq (.ofNat 2), .iconst (.ofNat 1), .ireturn]
def b172_2 : List Instr := [.aload 0, .sipush (.ofNat 418431069797), .invokevirtual 168, .ifCond .eq (.ofNat 3), .iconst (.ofNat 2), .ireturn]
def b172_3 : List Instr := [.aload 0, .sipush (.ofNat 431198598248), .invokevirtual 168, .ifCond .eq (.ofNat 4), .iconst (.ofNat 3), .ireturn]
def b172_4 : List Instr := [.aload 0, .sipush (.ofNat 114784769370228), .invokevirtual 168, .ifCond .eq (.ofNat 5), .iconst (.ofNat 4), .ireturn]
def b172_5 : List Instr := [.aload 0, .sipush (.ofNat 483006772069), .invokevirtual 168, .ifCond .eq (.ofNat 6), .iconst (.ofNat 5), .ireturn]
def b172_6 : List Instr := [.aload 0, .sipush (.ofNat 6710629), .invokevirtual 168, .ifCond .eq (.ofNat 7), .iconst (.ofNat 6), .ireturn]
def b172_7 : List Instr := [.aload 0, .sipush (.ofNat 127991794264947), .invokevirtual 168, .ifCond .eq (.ofNat 8), .iconst (.ofNat 7), .ireturn]
def b172_8 : List Instr := [.aload 0, .sipush (.ofNat 1936026726), .invokevirtual 168, .ifCond .eq (.ofNat 9), .iconst (.ofNat 8), .ireturn]
def b172_9 : List Instr := [.aload 0, .sipush (.ofNat 1751478885), .invokevirtual 168, .ifCond .eq (.ofNat 10), .iconst (.ofNat 9), .ireturn]
def b172_10 : List Instr := [.aload 0, .sipush (.ofNat 1870030194), .invokevirtual 168, .ifCond .eq (.ofNat 11), .iconst (.ofNat 10), .goto (.ofNat 13)]
def b172_11 : List Instr := [.aload 0, .sipush (.ofNat 6578553), .invokevirtual 168, .ifCond .eq (.ofNat 12), .iconst (.ofNat 11), .goto (.ofNat 13)]
def b172_12 : List Instr := [.iconst (.negSucc 0), .jsr (.ofNat 13)]
def b172_13 : List Instr := [.ireturn]
-- X12_wordHere
def b172 : Nat → List Instr := fun t => [b172_0, b172_1, b172_2, b172_3, b172_4, b172_5, b172_6, b172_7, b172_8, b172_9, b172_10, b172_11, b172_12, b172_13].getD t []
def q172 : Nat → Nat := fun t => [0, 12, 24, 36, 48, 60, 72, 85, 98, 111, 124, 139, 154, 155].getD t 0
def b173_0 : List Instr := [.aload 0, .fload 771, .iconst (.ofNat 400), .aload 0, .getfield 779, .imul, .aload 0, .fload 772, .aload 0, .getfield 779, .iaload, .iadd, .iload 1, .iconst (.ofNat 16), .iload 2, .imul, .iadd, .iastore, .aload 0, .fload 772, .aload 0, .getfield 779, .dup2, .iaload, .iconst (.ofNat 1), .iadd, .iastore, .return_]
-- X12_puts
def b173 : Nat → List Instr := fun t => [b173_0].getD t []
def q173 : Nat → Nat := fun t => [0].getD t 0
def b174_0 : List Instr := [.aload 0, .getfield 780, .iconst (.ofNat 60), .if_icmp .ne (.ofNat 1), .aload 0, .iconst (.ofNat 3), .iload 1, .invokevirtual 164, .ireturn]
def b174_1 : List Instr := [.aload 0, .dup, .getfield 780, .iconst (.ofNat 1), .iadd, .putfield 780, .iconst (.ofNat 1), .ireturn]
-- X12_makes
def b174 : Nat → List Instr := fun t => [b174_0, b174_1].getD t []
def q174 : Nat → Nat := fun t => [0, 16].getD t 0
def b175_0 : List Instr := [.aload 0, .getfield 781, .iconst (.ofNat 10), .if_icmp .ne (.ofNat 1), .aload 0, .iconst (.ofNat 2), .aload 0, .getfield 776, .invokevirtual 164, .ireturn]
def b175_1 : List Instr := [.aload 0, .dup, .getfield 781, .iconst (.ofNat 1), .iadd, .putfield 781, .aload 0, .fload 783, .aload 0, .getfield 784, .iload 1, .iastore, .aload 0, .dup, .getfield 784, .iconst (.ofNat 1), .iadd, .putfield 784, .iconst (.ofNat 1), .ireturn]
-- X12_opns
def b175 : Nat → List Instr := fun t => [b175_0, b175_1].getD t []
def q175 : Nat → Nat := fun t => [0, 19].getD t 0
def b176_0 : List Instr := [.iload 0, .iconst (.ofNat 13), .if_icmp .ne (.ofNat 1), .iconst (.ofNat 1), .goto (.ofNat 4)]
def b176_1 : List Instr := [.iload 0, .iconst (.ofNat 12), .if_icmp .ne (.ofNat 2), .iconst (.ofNat 2), .goto (.ofNat 4)]
def b176_2 : List Instr := [.iload 0, .iconst (.ofNat 11), .if_icmp .ne (.ofNat 3), .iconst (.ofNat 3), .goto (.ofNat 4)]
def b176_3 : List Instr := [.iconst (.ofNat 0), .jsr (.ofNat 4)]
def b176_4 : List Instr := [.ireturn]
-- X12_strength
def b176 : Nat → List Instr := fun t => [b176_0, b176_1, b176_2, b176_3, b176_4].getD t []
def q176 : Nat → Nat := fun t => [0, 10, 20, 30, 31].getD t 0
def b177_0 : List Instr := [.aload 0, .getfield 784, .ifCond .le (.ofNat 1), .aload 0, .fload 783, .aload 0, .getfield 784, .iconst (.ofNat 1), .isub, .iaload, .invokestatic 176, .iload 1, .if_icmp .lt (.ofNat 1), .aload 0, .dup, .getfield 784, .iconst (.ofNat 1), .isub, .putfield 784, .aload 0, .aload 0, .fload 783, .aload 0, .getfield 784, .iaload, .iconst (.ofNat 0), .invokevirtual 173, .aload 0, .fload 783, .aload 0, .getfield 784, .iaload, .iconst (.ofNat 11), .if_icmp .ne (.ofNat 0), .aload 0, .dup, .getfield 781, .iconst (.ofNat 1), .isub, .putfield 781, .goto (.ofNat 0)]
def b177_1 : List Instr := [.return_]
-- X12_settles
def b177 : Nat → List Instr := fun t => [b177_0, b177_1].getD t []
def q177 : Nat → Nat := fun t => [0, 76].getD t 0
def b178_0 : List Instr := [.aload 0, .invokevirtual 165, .pop, .aload 0, .getfield 776, .istore 1, .aload 0, .aload 0, .getfield 776, .invokevirtual 166, .ifCond .eq (.ofNat 3), .aload 0, .iconst (.ofNat 0), .iconst (.ofNat 99999), .invokevirtual 171, .ifCond .eq (.ofNat 1), .aload 0, .iload 1, .invokevirtual 174, .ifCond .ne (.ofNat 2), .jsr (.ofNat 1)]
def b178_1 : List Instr := [.iconst (.ofNat 0), .ireturn]
def b178_2 : List Instr := [.aload 0, .iconst (.ofNat 0), .aload 0, .getfield 778, .invokevirtual 173, .iconst (.ofNat 1), .ireturn]
def b178_3 : List Instr := [.aload 0, .invokevirtual 172, .istore 2, .iload 2, .ifCond .ge (.ofNat 4), .aload 0, .iconst (.ofNat 0), .iload 1, .invokevirtual 164, .ireturn]
def b178_4 : List Instr := [.aload 0, .iload 1, .invokevirtual 174, .ifCond .ne (.ofNat 5), .iconst (.ofNat 0), .ireturn]
def b178_5 : List Instr := [.aload 0, .invokevirtual 169, .aload 0, .iconst (.ofNat 1), .iload 2, .invokevirtual 173, .iconst (.ofNat 1), .ireturn]
-- X12_value
def b178 : Nat → List Instr := fun t => [b178_0, b178_1, b178_2, b178_3, b178_4, b178_5].getD t []
def q178 : Nat → Nat := fun t => [0, 39, 41, 52, 68, 78].getD t 0
def b179_0 : List Instr := [.aload 0, .invokevirtual 178, .ifCond .ne (.ofNat 1), .iconst (.ofNat 0), .ireturn]
def b179_1 : List Instr := [.aload 0, .invokevirtual 165, .iconst (.ofNat 42), .if_icmp .eq (.ofNat 2), .aload 0, .invokevirtual 165, .iconst (.ofNat 47), .if_icmp .eq (.ofNat 2), .aload 0, .invokevirtual 165, .iconst (.ofNat 37), .if_icmp .ne (.ofNat 7), .jsr (.ofNat 2)]
def b179_2 : List Instr := [.aload 0, .fload 768, .aload 0, .getfield 776, .baload, .iconst (.ofNat 42), .if_icmp .ne (.ofNat 3), .iconst (.ofNat 4), .goto (.ofNat 5)]
def b179_3 : List Instr := [.aload 0, .fload 768, .aload 0, .getfield 776, .baload, .iconst (.ofNat 47), .if_icmp .ne (.ofNat 4), .iconst (.ofNat 5), .goto (.ofNat 5)]
def b179_4 : List Instr := [.iconst (.ofNat 14), .jsr (.ofNat 5)]
def b179_5 : List Instr := [.istore 1, .aload 0, .dup, .getfield 776, .iconst (.ofNat 1), .iadd, .putfield 776, .aload 0, .invokevirtual 178, .ifCond .ne (.ofNat 6), .iconst (.ofNat 0), .ireturn]
def b179_6 : List Instr := [.aload 0, .iload 1, .iconst (.ofNat 0), .invokevirtual 173, .goto (.ofNat 1)]
def b179_7 : List Instr := [.iconst (.ofNat 1), .ireturn]
-- X12_term
def b179 : Nat → List Instr := fun t => [b179_0, b179_1, b179_2, b179_3, b179_4, b179_5, b179_6, b179_7].getD t []
def q179 : Nat → Nat := fun t => [0, 9, 36, 54, 72, 74, 94, 103].getD t 0
def b180_0 : List Instr := [.aload 0, .invokevirtual 179, .ifCond .ne (.ofNat 1), .iconst (.ofNat 0), .ireturn]
def b180_1 : List Instr := [.aload 0, .invokevirtual 165, .iconst (.ofNat 43), .if_icmp .eq (.ofNat 2), .aload 0, .invokevirtual 165, .iconst (.ofNat 45), .if_icmp .ne (.ofNat 6), .jsr (.ofNat 2)]
def b180_2 : List Instr := [.aload 0, .fload 768, .aload 0, .getfield 776, .baload, .iconst (.ofNat 43), .if_icmp .ne (.ofNat 3), .iconst (.ofNat 2), .goto (.ofNat 4)]
def b180_3 : List Instr := [.iconst (.ofNat 3), .jsr (.ofNat 4)]
def b180_4 : List Instr := [.istore 1, .aload 0, .dup, .getfield 776, .iconst (.ofNat 1), .iadd, .putfield 776, .aload 0, .invokevirtual 179, .ifCond .ne (.ofNat 5), .iconst (.ofNat 0), .ireturn]
def b180_5 : List Instr := [.aload 0, .iload 1, .iconst (.ofNat 0), .invokevirtual 173, .goto (.ofNat 1)]
def b180_6 : List Instr := [.iconst (.ofNat 1), .ireturn]
-- X12_sum
def b180 : Nat → List Instr := fun t => [b180_0, b180_1, b180_2, b180_3, b180_4, b180_5, b180_6].getD t []
def q180 : Nat → Nat := fun t => [0, 9, 27, 45, 46, 66, 75].getD t 0
def b181_0 : List Instr := [.aload 0, .invokevirtual 180, .ifCond .ne (.ofNat 1), .iconst (.ofNat 0), .ireturn]
def b181_1 : List Instr := [.aload 0, .invokevirtual 165, .istore 1, .aload 0, .getfield 776, .istore 2, .iload 1, .iconst (.ofNat 60), .if_icmp .eq (.ofNat 2), .iload 1, .iconst (.ofNat 61), .if_icmp .eq (.ofNat 2), .iload 1, .iconst (.ofNat 62), .if_icmp .eq (.ofNat 2), .aload 0, .iconst (.ofNat 0), .iload 2, .invokevirtual 164, .ireturn]
def b181_2 : List Instr := [.aload 0, .dup, .getfield 776, .iconst (.ofNat 1), .iadd, .putfield 776, .iload 1, .iconst (.ofNat 61), .if_icmp .eq (.ofNat 3), .aload 0, .getfield 776, .aload 0, .getfield 769, .if_icmp .ge (.ofNat 3), .aload 0, .fload 768, .aload 0, .getfield 776, .baload, .iconst (.ofNat 61), .if_icmp .ne (.ofNat 3), .iconst (.ofNat 1), .goto (.ofNat 4)]
def b181_3 : List Instr := [.iconst (.ofNat 0), .jsr (.ofNat 4)]
def b181_4 : List Instr := [.istore 3, .iload 3, .ifCond .eq (.ofNat 5), .aload 0, .dup, .getfield 776, .iconst (.ofNat 1), .iadd, .putfield 776, .jsr (.ofNat 5)]
def b181_5 : List Instr := [.aload 0, .iload 2, .invokevirtual 174, .ifCond .ne (.ofNat 6), .iconst (.ofNat 0), .ireturn]
def b181_6 : List Instr := [.iload 1, .iconst (.ofNat 60), .if_icmp .ne (.ofNat 8), .iload 3, .ifCond .eq (.ofNat 7), .iconst (.ofNat 1), .goto (.ofNat 11)]
def b181_7 : List Instr := [.iconst (.ofNat 0), .goto (.ofNat 11)]
def b181_8 : List Instr := [.iload 1, .iconst (.ofNat 61), .if_icmp .ne (.ofNat 9), .iconst (.ofNat 2), .goto (.ofNat 11)]
def b181_9 : List Instr := [.iload 3, .ifCond .eq (.ofNat 10), .iconst (.ofNat 3), .goto (.ofNat 11)]
def b181_10 : List Instr := [.iconst (.ofNat 4), .jsr (.ofNat 11)]
def b181_11 : List Instr := [.istore 4, .aload 0, .invokevirtual 180, .ifCond .ne (.ofNat 12), .iconst (.ofNat 0), .ireturn]
def b181_12 : List Instr := [.aload 0, .iconst (.ofNat 6), .iload 4, .iadd, .iconst (.ofNat 0), .invokevirtual 173, .iconst (.ofNat 1), .ireturn]
-- X12_compare
def b181 : Nat → List Instr := fun t => [b181_0, b181_1, b181_2, b181_3, b181_4, b181_5, b181_6, b181_7, b181_8, b181_9, b181_10, b181_11, b181_12].getD t []
def q181 : Nat → Nat := fun t => [0, 9, 44, 89, 90, 105, 115, 129, 133, 143, 151, 152, 163].getD t 0
def b182_0 : List Instr := [.iconst (.ofNat 1), .istore 1, .jsr (.ofNat 1)]
def b182_1 : List Instr := [.iload 1, .ifCond .eq (.ofNat 6), .iconst (.ofNat 0), .istore 1, .aload 0, .invokevirtual 165, .istore 2, .aload 0, .sipush (.ofNat 7237492), .invokevirtual 168, .ifCond .eq (.ofNat 3), .aload 0, .iconst (.ofNat 11), .invokevirtual 175, .ifCond .ne (.ofNat 2), .iconst (.ofNat 0), .ireturn]
def b182_2 : List Instr := [.aload 0, .invokevirtual 169, .iconst (.ofNat 1), .istore 1, .goto (.ofNat 5)]
def b182_3 : List Instr := [.iload 2, .iconst (.ofNat 91), .if_icmp .ne (.ofNat 5), .aload 0, .iconst (.ofNat 91), .invokevirtual 175, .ifCond .ne (.ofNat 4), .iconst (.ofNat 0), .ireturn]
def b182_4 : List Instr := [.aload 0, .dup, .getfield 776, .iconst (.ofNat 1), .iadd, .putfield 776, .iconst (.ofNat 1), .istore 1, .jsr (.ofNat 5)]
def b182_5 : List Instr := [.goto (.ofNat 1)]
def b182_6 : List Instr := [.aload 0, .invokevirtual 181, .ireturn]
-- X12_fact
def b182 : Nat → List Instr := fun t => [b182_0, b182_1, b182_2, b182_3, b182_4, b182_5, b182_6].getD t []
def q182 : Nat → Nat := fun t => [0, 2, 34, 43, 60, 72, 75].getD t 0
def b183_0 : List Instr := [.iconst (.ofNat 0), .istore 1, .jsr (.ofNat 1)]
def b183_1 : List Instr := [.iload 1, .aload 0, .getfield 784, .if_icmp .ge (.ofNat 3), .aload 0, .fload 783, .iload 1, .iaload, .iconst (.ofNat 91), .if_icmp .ne (.ofNat 2), .iconst (.ofNat 1), .ireturn]
def b183_2 : List Instr := [.iinc 1 (.ofNat 1), .goto (.ofNat 1)]
def b183_3 : List Instr := [.iconst (.ofNat 0), .ireturn]
-- X12_isInside
def b183 : Nat → List Instr := fun t => [b183_0, b183_1, b183_2, b183_3].getD t []
def q183 : Nat → Nat := fun t => [0, 2, 23, 29].getD t 0
def b184_0 : List Instr := [.aload 0, .iconst (.ofNat 3), .invokevirtual 177, .jsr (.ofNat 1)]
def b184_1 : List Instr := [.aload 0, .invokevirtual 165, .iconst (.ofNat 93), .if_icmp .ne (.ofNat 2), .aload 0, .invokevirtual 183, .ifCond .eq (.ofNat 2), .aload 0, .iconst (.ofNat 1), .invokevirtual 177, .aload 0, .dup, .getfield 784, .iconst (.ofNat 1), .isub, .putfield 784, .aload 0, .dup, .getfield 781, .iconst (.ofNat 1), .isub, .putfield 781, .aload 0, .dup, .getfield 776, .iconst (.ofNat 1), .iadd, .putfield 776, .aload 0, .iconst (.ofNat 3), .invokevirtual 177, .goto (.ofNat 1)]
def b184_2 : List Instr := [.return_]
-- X12_closes
def b184 : Nat → List Instr := fun t => [b184_0, b184_1, b184_2].getD t []
def q184 : Nat → Nat := fun t => [0, 5, 64].getD t 0
def b185_0 : List Instr := [.aload 0, .iconst (.ofNat 0), .putfield 784, .aload 0, .iconst (.ofNat 0), .putfield 781, .iconst (.ofNat 1), .istore 1, .jsr (.ofNat 1)]
def b185_1 : List Instr := [.iload 1, .ifCond .eq (.ofNat 8), .aload 0, .invokevirtual 182, .ifCond .ne (.ofNat 2), .iconst (.ofNat 0), .ireturn]
def b185_2 : List Instr := [.aload 0, .invokevirtual 184, .aload 0, .sipush (.ofNat 6385252), .invokevirtual 168, .ifCond .ne (.ofNat 3), .aload 0, .sipush (.ofNat 28530), .invokevirtual 168, .ifCond .eq (.ofNat 4), .jsr (.ofNat 3)]
def b185_3 : List Instr := [.iconst (.ofNat 1), .goto (.ofNat 5)]
def b185_4 : List Instr := [.iconst (.ofNat 0), .jsr (.ofNat 5)]
def b185_5 : List Instr := [.istore 1, .iload 1, .ifCond .eq (.ofNat 1), .aload 0, .sipush (.ofNat 6385252), .invokevirtual 168, .ifCond .eq (.ofNat 6), .iconst (.ofNat 12), .goto (.ofNat 7)]
def b185_6 : List Instr := [.iconst (.ofNat 13), .jsr (.ofNat 7)]
def b185_7 : List Instr := [.istore 2, .aload 0, .invokevirtual 169, .aload 0, .iload 2, .invokestatic 176, .invokevirtual 177, .aload 0, .fload 783, .aload 0, .getfield 784, .iload 2, .iastore, .aload 0, .dup, .getfield 784, .iconst (.ofNat 1), .iadd, .putfield 784, .goto (.ofNat 1)]
def b185_8 : List Instr := [.aload 0, .invokevirtual 183, .ifCond .eq (.ofNat 9), .aload 0, .invokevirtual 165, .pop, .aload 0, .iconst (.ofNat 0), .aload 0, .getfield 776, .invokevirtual 164, .ireturn]
def b185_9 : List Instr := [.aload 0, .iconst (.ofNat 1), .invokevirtual 177, .iconst (.ofNat 1), .ireturn]
-- X12_tested
def b185 : Nat → List Instr := fun t => [b185_0, b185_1, b185_2, b185_3, b185_4, b185_5, b185_6, b185_7, b185_8, b185_9].getD t []
def q185 : Nat → Nat := fun t => [0, 12, 25, 49, 53, 54, 74, 76, 112, 134].getD t 0
def b186_0 : List Instr := [.aload 0, .invokevirtual 169, .iconst (.ofNat 48), .aload 0, .getfield 779, .imul, .iconst (.ofNat 4), .aload 0, .fload 774, .aload 0, .getfield 779, .iaload, .imul, .iadd, .istore 1, .aload 0, .fload 773, .iload 1, .aload 0, .fload 772, .aload 0, .getfield 779, .iaload, .iastore, .aload 0, .invokevirtual 180, .ifCond .ne (.ofNat 1), .iconst (.ofNat 0), .ireturn]
def b186_1 : List Instr := [.aload 0, .fload 773, .iload 1, .iconst (.ofNat 1), .iadd, .aload 0, .fload 772, .aload 0, .getfield 779, .iaload, .iastore, .aload 0, .fload 773, .iload 1, .iconst (.ofNat 2), .iadd, .iconst (.negSucc 0), .iastore, .aload 0, .sipush (.ofNat 26982), .invokevirtual 170, .ifCond .eq (.ofNat 2), .aload 0, .fload 773, .iload 1, .iconst (.ofNat 2), .iadd, .aload 0, .fload 772, .aload 0, .getfield 779, .iaload, .iastore, .aload 0, .invokevirtual 185, .ifCond .ne (.ofNat 2), .iconst (.ofNat 0), .ireturn]
def b186_2 : List Instr := [.aload 0, .fload 773, .iload 1, .iconst (.ofNat 3), .iadd, .aload 0, .fload 772, .aload 0, .getfield 779, .iaload, .iastore, .aload 0, .fload 774, .aload 0, .getfield 779, .dup2, .iaload, .iconst (.ofNat 1), .iadd, .iastore, .iconst (.ofNat 1), .ireturn]
-- X12_isGoHere
def b186 : Nat → List Instr := fun t => [b186_0, b186_1, b186_2].getD t []
def q186 : Nat → Nat := fun t => [0, 48, 110].getD t 0
def b187_0 : List Instr := [.aload 0, .iload 2, .iload 3, .invokevirtual 171, .ifCond .ne (.ofNat 1), .iconst (.ofNat 0), .ireturn]
def b187_1 : List Instr := [.aload 0, .fload 775, .iload 1, .aload 0, .getfield 778, .iastore, .iconst (.ofNat 1), .ireturn]
-- X12_cellHere
def b187 : Nat → List Instr := fun t => [b187_0, b187_1].getD t []
def q187 : Nat → Nat := fun t => [0, 11].getD t 0
def b188_0 : List Instr := [.aload 0, .fload 775, .iconst (.ofNat 0), .iaload, .ifCond .le (.ofNat 1), .aload 0, .iconst (.ofNat 4), .iload 1, .invokevirtual 164, .ireturn]
def b188_1 : List Instr := [.aload 0, .invokevirtual 169, .aload 0, .iconst (.ofNat 109), .iconst (.ofNat 0), .iconst (.ofNat 60), .invokevirtual 187, .ifCond .eq (.ofNat 2), .aload 0, .iconst (.ofNat 1), .iconst (.ofNat 0), .iconst (.ofNat 5), .invokevirtual 187, .ifCond .ne (.ofNat 3), .jsr (.ofNat 2)]
def b188_2 : List Instr := [.iconst (.ofNat 0), .ireturn]
def b188_3 : List Instr := [.aload 0, .fload 775, .iconst (.ofNat 0), .iconst (.ofNat 1), .iastore, .iconst (.ofNat 0), .istore 2, .jsr (.ofNat 4)]
def b188_4 : List Instr := [.iload 2, .iconst (.ofNat 36), .if_icmp .ge (.ofNat 5), .aload 0, .fload 775, .iconst (.ofNat 73), .iload 2, .iadd, .iconst (.ofNat 10), .iastore, .iinc 2 (.ofNat 1), .goto (.ofNat 4)]
def b188_5 : List Instr := [.iconst (.ofNat 1), .ireturn]
-- X12_isFordHere
def b188 : Nat → List Instr := fun t => [b188_0, b188_1, b188_2, b188_3, b188_4, b188_5].getD t []
def q188 : Nat → Nat := fun t => [0, 16, 42, 44, 53, 76].getD t 0
def b189_0 : List Instr := [.aload 0, .fload 775, .iconst (.ofNat 2), .iaload, .iconst (.ofNat 6), .if_icmp .ne (.ofNat 1), .aload 0, .iconst (.ofNat 4), .iload 1, .invokevirtual 164, .ireturn]
def b189_1 : List Instr := [.aload 0, .invokevirtual 169, .aload 0, .fload 775, .iconst (.ofNat 2), .iaload, .istore 2, .aload 0, .iconst (.ofNat 55), .iload 2, .iadd, .iconst (.ofNat 0), .iconst (.ofNat 60), .invokevirtual 187, .ifCond .eq (.ofNat 2), .aload 0, .iconst (.ofNat 67), .iload 2, .iadd, .iconst (.ofNat 0), .iconst (.ofNat 99), .invokevirtual 187, .ifCond .eq (.ofNat 2), .aload 0, .iconst (.ofNat 61), .iload 2, .iadd, .iconst (.ofNat 0), .iconst (.ofNat 9), .invokevirtual 187, .ifCond .ne (.ofNat 3), .jsr (.ofNat 2)]
def b189_2 : List Instr := [.iconst (.ofNat 0), .ireturn]
def b189_3 : List Instr := [.aload 0, .fload 775, .iconst (.ofNat 2), .dup2, .iaload, .iconst (.ofNat 1), .iadd, .iastore, .iconst (.ofNat 1), .ireturn]
-- X12_isPersonHere
def b189 : Nat → List Instr := fun t => [b189_0, b189_1, b189_2, b189_3].getD t []
def q189 : Nat → Nat := fun t => [0, 18, 71, 73].getD t 0
def b190_0 : List Instr := [.aload 0, .invokevirtual 169, .aload 0, .iconst (.ofNat 0), .aload 0, .fload 775, .iconst (.ofNat 2), .iaload, .iconst (.ofNat 1), .isub, .invokevirtual 171, .ifCond .ne (.ofNat 1), .iconst (.ofNat 0), .ireturn]
def b190_1 : List Instr := [.iconst (.ofNat 6), .aload 0, .getfield 778, .imul, .istore 1, .aload 0, .iconst (.ofNat 0), .aload 0, .fload 775, .iconst (.ofNat 2), .iaload, .iconst (.ofNat 1), .isub, .invokevirtual 171, .ifCond .ne (.ofNat 2), .iconst (.ofNat 0), .ireturn]
def b190_2 : List Instr := [.aload 0, .iconst (.ofNat 73), .iload 1, .iadd, .aload 0, .getfield 778, .iadd, .iconst (.ofNat 0), .iconst (.ofNat 20), .invokevirtual 187, .ireturn]
-- X12_areThoughtsHere
def b190 : Nat → List Instr := fun t => [b190_0, b190_1, b190_2].getD t []
def q190 : Nat → Nat := fun t => [0, 22, 48].getD t 0
def b191_0 : List Instr := [.aload 0, .sipush (.ofNat 1718579812), .invokevirtual 168, .ifCond .eq (.ofNat 1), .aload 0, .iload 1, .invokevirtual 188, .ireturn]
def b191_1 : List Instr := [.aload 0, .fload 775, .iconst (.ofNat 0), .iaload, .ifCond .ne (.ofNat 2), .aload 0, .iconst (.ofNat 4), .iload 1, .invokevirtual 164, .ireturn]
def b191_2 : List Instr := [.aload 0, .sipush (.ofNat 123581014175598), .invokevirtual 168, .ifCond .eq (.ofNat 3), .aload 0, .iload 1, .invokevirtual 189, .goto (.ofNat 4)]
def b191_3 : List Instr := [.aload 0, .invokevirtual 190, .jsr (.ofNat 4)]
def b191_4 : List Instr := [.ireturn]
-- X12_fordLineHere
def b191 : Nat → List Instr := fun t => [b191_0, b191_1, b191_2, b191_3, b191_4].getD t []
def q191 : Nat → Nat := fun t => [0, 16, 32, 50, 54].getD t 0
