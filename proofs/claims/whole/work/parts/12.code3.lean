def b96_0 : List Instr := [.aload 0, .monitorenter, .aload 0, .iconst (.ofNat 54), .newarray .int, .fstore 646, .return_]
-- X10_init
def b96 : Nat → List Instr := fun t => [b96_0].getD t []
def q96 : Nat → Nat := fun t => [0].getD t 0
def b97_0 : List Instr := [.aload 0, .aload 1, .getfield 640, .putfield 640, .aload 0, .aload 1, .getfield 641, .putfield 641, .aload 0, .aload 1, .getfield 642, .putfield 642, .aload 0, .aload 1, .getfield 643, .putfield 643, .aload 0, .aload 1, .getfield 644, .putfield 644, .aload 0, .aload 1, .getfield 645, .putfield 645, .aload 1, .fload 646, .iconst (.ofNat 0), .aload 0, .fload 646, .iconst (.ofNat 0), .iconst (.ofNat 54), .caload, .return_]
-- X10_copyFrom
def b97 : Nat → List Instr := fun t => [b97_0].getD t []
def q97 : Nat → Nat := fun t => [0].getD t 0
def b98_0 : List Instr := [.aload 0, .iconst (.ofNat 1), .putfield 640, .aload 0, .iload 1, .putfield 641, .aload 0, .iload 2, .putfield 642, .aload 0, .iconst (.ofNat 0), .putfield 643, .aload 0, .iconst (.ofNat 0), .putfield 644, .aload 0, .iconst (.ofNat 0), .putfield 645, .iconst (.ofNat 0), .istore 3, .jsr (.ofNat 1)]
def b98_1 : List Instr := [.iload 3, .iconst (.ofNat 54), .if_icmp .ge (.ofNat 4), .aload 0, .fload 646, .iload 3, .iload 3, .iconst (.ofNat 18), .if_icmp .ge (.ofNat 2), .iconst (.ofNat 0), .goto (.ofNat 3)]
def b98_2 : List Instr := [.iconst (.ofNat 10), .jsr (.ofNat 3)]
def b98_3 : List Instr := [.iastore, .iinc 3 (.ofNat 1), .goto (.ofNat 1)]
def b98_4 : List Instr := [.return_]
-- X10_begin
def b98 : Nat → List Instr := fun t => [b98_0, b98_1, b98_2, b98_3, b98_4].getD t []
def q98 : Nat → Nat := fun t => [0, 32, 53, 55, 62].getD t 0
def b99_0 : List Instr := [.aload 0, .getfield 643, .iconst (.ofNat 6), .if_icmp .ge (.ofNat 1), .aload 0, .fload 646, .iconst (.ofNat 0), .aload 0, .getfield 643, .iadd, .iload 1, .iastore, .aload 0, .fload 646, .iconst (.ofNat 6), .aload 0, .getfield 643, .iadd, .iload 2, .iastore, .aload 0, .fload 646, .iconst (.ofNat 12), .aload 0, .getfield 643, .iadd, .iload 3, .iastore, .aload 0, .dup, .getfield 643, .iconst (.ofNat 1), .iadd, .putfield 643, .jsr (.ofNat 1)]
def b99_1 : List Instr := [.return_]
-- X10_add
def b99 : Nat → List Instr := fun t => [b99_0, b99_1].getD t []
def q99 : Nat → Nat := fun t => [0, 57].getD t 0
def b100_0 : List Instr := [.iload 1, .ifCond .lt (.ofNat 1), .iload 1, .aload 0, .getfield 643, .if_icmp .ge (.ofNat 1), .iconst (.ofNat 1), .goto (.ofNat 2)]
def b100_1 : List Instr := [.iconst (.ofNat 0), .jsr (.ofNat 2)]
def b100_2 : List Instr := [.ireturn]
-- X10_has
def b100 : Nat → List Instr := fun t => [b100_0, b100_1, b100_2].getD t []
def q100 : Nat → Nat := fun t => [0, 16, 17].getD t 0
def b101_0 : List Instr := [.iconst (.ofNat 1), .aload 0, .getfield 643, .ishl, .iconst (.ofNat 1), .isub, .ireturn]
-- X10_all
def b101 : Nat → List Instr := fun t => [b101_0].getD t []
def q101 : Nat → Nat := fun t => [0].getD t 0
def b102_0 : List Instr := [.aload 0, .getfield 645, .iload 1, .ishr, .iconst (.ofNat 1), .iand, .ireturn]
-- X10_side
def b102 : Nat → List Instr := fun t => [b102_0].getD t []
def q102 : Nat → Nat := fun t => [0].getD t 0
def b103_0 : List Instr := [.aload 0, .fload 646, .iconst (.ofNat 0), .iload 1, .iadd, .iaload, .ireturn]
-- X10_height
def b103 : Nat → List Instr := fun t => [b103_0].getD t []
def q103 : Nat → Nat := fun t => [0].getD t 0
def b104_0 : List Instr := [.aload 0, .fload 646, .iconst (.ofNat 6), .iload 1, .iadd, .iaload, .ireturn]
-- X10_purse
def b104 : Nat → List Instr := fun t => [b104_0].getD t []
def q104 : Nat → Nat := fun t => [0].getD t 0
def b105_0 : List Instr := [.aload 0, .fload 646, .iconst (.ofNat 12), .iload 1, .iadd, .iaload, .ireturn]
-- X10_fee
def b105 : Nat → List Instr := fun t => [b105_0].getD t []
def q105 : Nat → Nat := fun t => [0].getD t 0
def b106_0 : List Instr := [.aload 0, .fload 646, .iconst (.ofNat 12), .iload 1, .iadd, .iload 2, .iastore, .return_]
-- X10_setFee
def b106 : Nat → List Instr := fun t => [b106_0].getD t []
def q106 : Nat → Nat := fun t => [0].getD t 0
def b107_0 : List Instr := [.aload 0, .fload 646, .iconst (.ofNat 18), .iconst (.ofNat 6), .iload 1, .imul, .iadd, .iload 2, .iadd, .iaload, .ireturn]
-- X10_thought
def b107 : Nat → List Instr := fun t => [b107_0].getD t []
def q107 : Nat → Nat := fun t => [0].getD t 0
def b108_0 : List Instr := [.aload 0, .fload 646, .iconst (.ofNat 18), .iconst (.ofNat 6), .iload 1, .imul, .iadd, .iload 2, .iadd, .iload 3, .iastore, .return_]
-- X10_think
def b108 : Nat → List Instr := fun t => [b108_0].getD t []
def q108 : Nat → Nat := fun t => [0].getD t 0
def b109_0 : List Instr := [.iconst (.ofNat 18), .iconst (.ofNat 6), .iload 1, .imul, .iadd, .istore 3, .aload 0, .getfield 641, .aload 0, .fload 646, .iload 3, .iload 2, .iadd, .iaload, .iadd, .aload 0, .fload 646, .iload 3, .iload 1, .iadd, .iaload, .isub, .istore 4, .iload 4, .ifCond .ge (.ofNat 1), .iconst (.ofNat 0), .goto (.ofNat 2)]
def b109_1 : List Instr := [.iload 4, .jsr (.ofNat 2)]
def b109_2 : List Instr := [.ireturn]
-- X10_depthFor
def b109 : Nat → List Instr := fun t => [b109_0, b109_1, b109_2].getD t []
def q109 : Nat → Nat := fun t => [0, 41, 43].getD t 0
def b110_0 : List Instr := [.aload 0, .iload 1, .iload 2, .invokevirtual 109, .aload 0, .fload 646, .iconst (.ofNat 0), .iload 1, .iadd, .iaload, .if_icmp .gt (.ofNat 1), .aload 0, .iload 2, .iload 1, .invokevirtual 109, .aload 0, .fload 646, .iconst (.ofNat 0), .iload 2, .iadd, .iaload, .if_icmp .gt (.ofNat 1), .iconst (.ofNat 1), .goto (.ofNat 2)]
def b110_1 : List Instr := [.iconst (.ofNat 0), .jsr (.ofNat 2)]
def b110_2 : List Instr := [.ireturn]
-- X10_canWade
def b110 : Nat → List Instr := fun t => [b110_0, b110_1, b110_2].getD t []
def q110 : Nat → Nat := fun t => [0, 38, 39].getD t 0
def b111_0 : List Instr := [.iload 1, .iload 2, .if_icmp .ne (.ofNat 3), .aload 0, .getfield 641, .aload 0, .fload 646, .iconst (.ofNat 0), .iload 1, .iadd, .iaload, .if_icmp .gt (.ofNat 1), .iconst (.ofNat 1), .goto (.ofNat 2)]
def b111_1 : List Instr := [.iconst (.ofNat 0), .jsr (.ofNat 2)]
def b111_2 : List Instr := [.ireturn]
def b111_3 : List Instr := [.aload 0, .iload 1, .invokevirtual 102, .aload 0, .iload 2, .invokevirtual 102, .if_icmp .ne (.ofNat 4), .aload 0, .fload 646, .iconst (.ofNat 6), .iload 1, .iadd, .iaload, .aload 0, .fload 646, .iconst (.ofNat 12), .iload 2, .iadd, .iaload, .if_icmp .lt (.ofNat 4), .aload 0, .iload 1, .iload 2, .invokevirtual 110, .ifCond .eq (.ofNat 4), .iconst (.ofNat 1), .goto (.ofNat 5)]
def b111_4 : List Instr := [.iconst (.ofNat 0), .jsr (.ofNat 5)]
def b111_5 : List Instr := [.ireturn]
-- X10_can
def b111 : Nat → List Instr := fun t => [b111_0, b111_1, b111_2, b111_3, b111_4, b111_5].getD t []
def q111 : Nat → Nat := fun t => [0, 24, 25, 26, 73, 74].getD t 0
def b112_0 : List Instr := [.iconst (.ofNat 0), .istore 2, .jsr (.ofNat 1)]
def b112_1 : List Instr := [.iload 2, .aload 0, .getfield 643, .if_icmp .ge (.ofNat 3), .aload 0, .iload 1, .iload 2, .invokevirtual 111, .ifCond .eq (.ofNat 2), .iconst (.ofNat 1), .ireturn]
def b112_2 : List Instr := [.iinc 2 (.ofNat 1), .goto (.ofNat 1)]
def b112_3 : List Instr := [.iconst (.ofNat 0), .ireturn]
-- X10_canAnyhow
def b112 : Nat → List Instr := fun t => [b112_0, b112_1, b112_2, b112_3].getD t []
def q112 : Nat → Nat := fun t => [0, 2, 21, 27].getD t 0
def b113_0 : List Instr := [.aload 0, .iload 1, .invokevirtual 114, .iload 2, .iload 1, .if_icmp .eq (.ofNat 1), .aload 0, .iload 2, .invokevirtual 114, .aload 0, .iload 1, .iload 2, .aload 0, .fload 646, .iconst (.ofNat 12), .iload 2, .iadd, .iaload, .invokevirtual 115, .jsr (.ofNat 1)]
def b113_1 : List Instr := [.return_]
-- X10_go
def b113 : Nat → List Instr := fun t => [b113_0, b113_1].getD t []
def q113 : Nat → Nat := fun t => [0, 30].getD t 0
def b114_0 : List Instr := [.aload 0, .dup, .getfield 645, .iconst (.ofNat 1), .iload 1, .ishl, .ixor, .putfield 645, .iconst (.ofNat 18), .iconst (.ofNat 6), .iload 1, .imul, .iadd, .iload 1, .iadd, .istore 2, .aload 0, .fload 646, .iload 2, .iconst (.ofNat 20), .aload 0, .fload 646, .iload 2, .iaload, .aload 0, .getfield 642, .iadd, .invokestatic 279, .iastore, .return_]
-- X10_step
def b114 : Nat → List Instr := fun t => [b114_0].getD t []
def q114 : Nat → Nat := fun t => [0].getD t 0
def b115_0 : List Instr := [.aload 0, .fload 646, .iconst (.ofNat 6), .iload 1, .iadd, .dup2, .iaload, .iload 3, .isub, .iastore, .aload 0, .fload 646, .iconst (.ofNat 6), .iload 2, .iadd, .iconst (.ofNat 9999), .aload 0, .fload 646, .iconst (.ofNat 6), .iload 2, .iadd, .iaload, .iload 3, .iadd, .invokestatic 279, .iastore, .return_]
-- X10_give
def b115 : Nat → List Instr := fun t => [b115_0].getD t []
def q115 : Nat → Nat := fun t => [0].getD t 0
def b116_0 : List Instr := [.iconst (.ofNat 0), .istore 2, .iconst (.ofNat 0), .istore 3, .jsr (.ofNat 1)]
def b116_1 : List Instr := [.iload 3, .aload 0, .getfield 643, .if_icmp .ge (.ofNat 3), .iload 1, .iload 3, .ishr, .iconst (.ofNat 1), .iand, .iconst (.ofNat 1), .if_icmp .ne (.ofNat 2), .iload 2, .aload 0, .fload 646, .iconst (.ofNat 6), .iload 3, .iadd, .iaload, .iadd, .istore 2, .jsr (.ofNat 2)]
def b116_2 : List Instr := [.iinc 3 (.ofNat 1), .goto (.ofNat 1)]
def b116_3 : List Instr := [.iload 2, .ireturn]
-- X10_coinsOf
def b116 : Nat → List Instr := fun t => [b116_0, b116_1, b116_2, b116_3].getD t []
def q116 : Nat → Nat := fun t => [0, 4, 33, 39].getD t 0
def b117_0 : List Instr := [.aload 0, .monitorenter, .aload 0, .new 8, .dup, .invokespecial 68, .fstore 704, .aload 0, .new 1, .dup, .invokespecial 8, .fstore 705, .aload 0, .new 6, .dup, .invokespecial 45, .fstore 706, .aload 0, .iconst (.ofNat 6), .anewarray 5, .fstore 707, .aload 0, .new 7, .dup, .invokespecial 64, .fstore 709, .aload 0, .iconst (.ofNat 4), .anewarray 7, .fstore 710, .aload 0, .new 3, .dup, .invokespecial 22, .fstore 711, .aload 0, .new 0, .dup, .invokespecial 0, .fstore 712, .aload 0, .new 4, .dup, .invokespecial 26, .fstore 713, .aload 0, .new 9, .dup, .invokespecial 81, .fstore 714, .aload 0, .new 2, .dup, .invokespecial 14, .fstore 715, .iconst (.ofNat 0), .istore 1, .jsr (.ofNat 1)]
def b117_1 : List Instr := [.iload 1, .iconst (.ofNat 4), .if_icmp .ge (.ofNat 2), .aload 0, .fload 710, .iload 1, .new 7, .dup, .invokespecial 64, .aastore, .iinc 1 (.ofNat 1), .goto (.ofNat 1)]
def b117_2 : List Instr := [.return_]
-- X11_init
def b117 : Nat → List Instr := fun t => [b117_0, b117_1, b117_2].getD t []
def q117 : Nat → Nat := fun t => [0, 122, 146].getD t 0
def b118_0 : List Instr := [.aload 0, .fload 704, .iconst (.ofNat 20), .invokevirtual 69, .ifCond .ne (.ofNat 1), .iconst (.negSucc 0), .ireturn]
def b118_1 : List Instr := [.aload 0, .fload 704, .iload 1, .invokevirtual 70, .aload 0, .fload 704, .iload 2, .invokevirtual 70, .aload 0, .fload 704, .iload 3, .invokevirtual 70, .aload 0, .fload 704, .iload 4, .invokevirtual 70, .aload 0, .fload 704, .iload 5, .invokevirtual 70, .aload 0, .fload 704, .getfield 513, .ireturn]
-- X11_feed
def b118 : Nat → List Instr := fun t => [b118_0, b118_1].getD t []
def q118 : Nat → Nat := fun t => [0, 14].getD t 0
def b119_0 : List Instr := [.iload 1, .ifCond .lt (.ofNat 1), .iload 1, .aload 0, .fload 704, .getfield 513, .if_icmp .le (.ofNat 2), .jsr (.ofNat 1)]
def b119_1 : List Instr := [.iconst (.negSucc 0), .ireturn]
def b119_2 : List Instr := [.aload 0, .fload 704, .iload 1, .putfield 513, .iload 1, .ireturn]
-- X11_end
def b119 : Nat → List Instr := fun t => [b119_0, b119_1, b119_2].getD t []
def q119 : Nat → Nat := fun t => [0, 15, 17].getD t 0
def b120_0 : List Instr := [.aload 0, .fload 705, .aload 0, .fload 704, .invokevirtual 9, .istore 1, .aload 0, .fload 704, .iconst (.ofNat 0), .putfield 513, .iload 1, .ifCond .eq (.ofNat 1), .iconst (.negSucc 1), .iload 1, .isub, .ireturn]
def b120_1 : List Instr := [.aload 0, .fload 709, .fload 449, .aload 0, .fload 705, .fload 64, .invokevirtual 97, .aload 0, .fload 709, .fload 450, .aload 0, .fload 705, .fload 64, .invokevirtual 97, .aload 0, .fload 709, .iconst (.ofNat 0), .putfield 454, .aload 0, .fload 711, .invokevirtual 23, .aload 0, .fload 709, .fload 450, .getfield 643, .ireturn]
-- X11_ford
def b120 : Nat → List Instr := fun t => [b120_0, b120_1].getD t []
def q120 : Nat → Nat := fun t => [0, 29].getD t 0
def b121_0 : List Instr := [.aload 0, .getfield 708, .iconst (.ofNat 6), .if_icmp .lt (.ofNat 1), .iconst (.negSucc 0), .ireturn]
def b121_1 : List Instr := [.aload 0, .fload 706, .aload 0, .fload 704, .invokevirtual 46, .istore 1, .aload 0, .fload 704, .iconst (.ofNat 0), .putfield 513, .iload 1, .ifCond .eq (.ofNat 2), .iconst (.negSucc 1), .iload 1, .isub, .ireturn]
def b121_2 : List Instr := [.aload 0, .fload 707, .aload 0, .getfield 708, .aload 0, .fload 706, .invokevirtual 47, .aastore, .aload 0, .dup, .getfield 708, .iconst (.ofNat 1), .iadd, .putfield 708, .aload 0, .getfield 708, .iconst (.ofNat 1), .isub, .ireturn]
-- X11_rule
def b121 : Nat → List Instr := fun t => [b121_0, b121_1, b121_2].getD t []
def q121 : Nat → Nat := fun t => [0, 11, 40].getD t 0
def b122_0 : List Instr := [.iload 1, .iconst (.negSucc 0), .if_icmp .lt (.ofNat 1), .iload 1, .aload 0, .getfield 708, .if_icmp .lt (.ofNat 2), .jsr (.ofNat 1)]
def b122_1 : List Instr := [.iconst (.negSucc 1), .ireturn]
def b122_2 : List Instr := [.aload 0, .fload 709, .getfield 456, .istore 2, .aload 0, .fload 709, .iload 1, .putfield 456, .iload 2, .ireturn]
-- X11_force
def b122 : Nat → List Instr := fun t => [b122_0, b122_1, b122_2].getD t []
def q122 : Nat → Nat := fun t => [0, 13, 16].getD t 0
def b123_0 : List Instr := [.aload 0, .fload 709, .fload 450, .astore 3, .aload 3, .iload 1, .invokevirtual 100, .ifCond .ne (.ofNat 1), .iconst (.negSucc 0), .ireturn]
def b123_1 : List Instr := [.iload 2, .tableswitch (.ofNat 6) 0 3 #[.ofNat 2, .ofNat 3, .ofNat 4, .ofNat 5]]
def b123_2 : List Instr := [.aload 3, .iload 1, .invokevirtual 103, .ireturn]
def b123_3 : List Instr := [.aload 3, .iload 1, .invokevirtual 104, .ireturn]
def b123_4 : List Instr := [.aload 3, .iload 1, .invokevirtual 105, .ireturn]
def b123_5 : List Instr := [.aload 3, .iload 1, .invokevirtual 102, .ireturn]
def b123_6 : List Instr := [.iconst (.negSucc 0), .ireturn]
-- X11_person
def b123 : Nat → List Instr := fun t => [b123_0, b123_1, b123_2, b123_3, b123_4, b123_5, b123_6].getD t []
def q123 : Nat → Nat := fun t => [0, 18, 48, 54, 60, 66, 72].getD t 0
def b124_0 : List Instr := [.aload 0, .iload 1, .iload 2, .invokevirtual 153, .ifCond .eq (.ofNat 1), .aload 0, .fload 709, .fload 450, .iload 1, .iload 2, .invokevirtual 107, .goto (.ofNat 2)]
def b124_1 : List Instr := [.iconst (.negSucc 0), .jsr (.ofNat 2)]
def b124_2 : List Instr := [.ireturn]
-- X11_thinks
def b124 : Nat → List Instr := fun t => [b124_0, b124_1, b124_2].getD t []
def q124 : Nat → Nat := fun t => [0, 24, 25].getD t 0
def b125_0 : List Instr := [.aload 0, .iload 1, .iload 2, .invokevirtual 153, .ifCond .eq (.ofNat 1), .aload 0, .fload 709, .fload 450, .iload 1, .iload 2, .invokevirtual 109, .goto (.ofNat 2)]
def b125_1 : List Instr := [.iconst (.negSucc 0), .jsr (.ofNat 2)]
def b125_2 : List Instr := [.ireturn]
-- X11_depth
def b125 : Nat → List Instr := fun t => [b125_0, b125_1, b125_2].getD t []
def q125 : Nat → Nat := fun t => [0, 24, 25].getD t 0
def b126_0 : List Instr := [.aload 0, .fload 709, .fload 450, .astore 1, .aload 1, .getfield 640, .ifCond .eq (.ofNat 1), .aload 1, .getfield 644, .iconst (.ofNat 999), .if_icmp .lt (.ofNat 2), .jsr (.ofNat 1)]
def b126_1 : List Instr := [.iconst (.negSucc 0), .ireturn]
def b126_2 : List Instr := [.aload 0, .fload 711, .aload 1, .invokevirtual 24, .aload 0, .fload 712, .aload 1, .aload 0, .invokevirtual 152, .invokevirtual 1, .ireturn]
-- X11_day
def b126 : Nat → List Instr := fun t => [b126_0, b126_1, b126_2].getD t []
def q126 : Nat → Nat := fun t => [0, 25, 27].getD t 0
def b127_0 : List Instr := [.aload 0, .fload 709, .fload 450, .astore 3, .aload 0, .iload 1, .iload 2, .invokevirtual 153, .ifCond .eq (.ofNat 1), .aload 3, .iload 1, .iload 2, .invokevirtual 111, .ifCond .ne (.ofNat 2), .jsr (.ofNat 1)]
def b127_1 : List Instr := [.iconst (.negSucc 0), .ireturn]
def b127_2 : List Instr := [.aload 0, .fload 711, .aload 3, .invokevirtual 24, .aload 3, .iload 1, .iload 2, .invokevirtual 113, .aload 3, .iload 1, .invokevirtual 102, .ireturn]
-- X11_cross
def b127 : Nat → List Instr := fun t => [b127_0, b127_1, b127_2].getD t []
def q127 : Nat → Nat := fun t => [0, 26, 28].getD t 0
def b128_0 : List Instr := [.aload 0, .fload 709, .fload 450, .astore 4, .aload 0, .iload 1, .iload 2, .invokevirtual 153, .ifCond .eq (.ofNat 1), .iload 3, .iconst (.ofNat 0), .iconst (.ofNat 20), .invokestatic 155, .ifCond .ne (.ofNat 2), .jsr (.ofNat 1)]
def b128_1 : List Instr := [.iconst (.negSucc 0), .ireturn]
def b128_2 : List Instr := [.aload 4, .iload 1, .iload 2, .invokevirtual 107, .istore 5, .iload 5, .iload 3, .if_icmp .ne (.ofNat 3), .iconst (.negSucc 0), .ireturn]
def b128_3 : List Instr := [.aload 0, .fload 711, .aload 4, .invokevirtual 24, .aload 4, .iload 1, .iload 2, .iload 3, .invokevirtual 108, .iload 5, .ireturn]
-- X11_remark
def b128 : Nat → List Instr := fun t => [b128_0, b128_1, b128_2, b128_3].getD t []
def q128 : Nat → Nat := fun t => [0, 28, 30, 47].getD t 0
def b129_0 : List Instr := [.aload 0, .fload 709, .fload 450, .astore 4, .aload 0, .iload 1, .iload 2, .invokevirtual 154, .ifCond .eq (.ofNat 1), .iload 3, .iconst (.ofNat 1), .iconst (.ofNat 99), .invokestatic 155, .ifCond .eq (.ofNat 1), .iload 3, .aload 4, .iload 1, .invokevirtual 104, .if_icmp .le (.ofNat 2), .jsr (.ofNat 1)]
def b129_1 : List Instr := [.iconst (.negSucc 0), .ireturn]
def b129_2 : List Instr := [.aload 0, .fload 711, .aload 4, .invokevirtual 24, .aload 4, .iload 1, .iload 2, .iload 3, .invokevirtual 115, .aload 4, .iload 1, .invokevirtual 104, .ireturn]
-- X11_pay
def b129 : Nat → List Instr := fun t => [b129_0, b129_1, b129_2].getD t []
def q129 : Nat → Nat := fun t => [0, 38, 40].getD t 0
def b130_0 : List Instr := [.aload 0, .fload 709, .fload 450, .astore 2, .aload 2, .getfield 640, .ifCond .eq (.ofNat 1), .iload 1, .iconst (.ofNat 0), .iconst (.ofNat 60), .invokestatic 155, .ifCond .eq (.ofNat 1), .iload 1, .aload 2, .getfield 641, .if_icmp .ne (.ofNat 2), .jsr (.ofNat 1)]
def b130_1 : List Instr := [.iconst (.negSucc 0), .ireturn]
def b130_2 : List Instr := [.aload 0, .fload 711, .aload 2, .invokevirtual 24, .aload 2, .getfield 641, .istore 3, .aload 2, .iload 1, .putfield 641, .iload 3, .ireturn]
-- X11_flood
def b130 : Nat → List Instr := fun t => [b130_0, b130_1, b130_2].getD t []
def q130 : Nat → Nat := fun t => [0, 33, 35].getD t 0
def b131_0 : List Instr := [.aload 0, .fload 711, .getfield 194, .ifCond .gt (.ofNat 1), .iconst (.negSucc 0), .ireturn]
def b131_1 : List Instr := [.aload 0, .fload 711, .aload 0, .fload 709, .fload 450, .invokevirtual 25, .aload 0, .fload 711, .getfield 194, .ireturn]
-- X11_undo
def b131 : Nat → List Instr := fun t => [b131_0, b131_1].getD t []
def q131 : Nat → Nat := fun t => [0, 12].getD t 0
def b132_0 : List Instr := [.aload 0, .fload 709, .fload 450, .iload 1, .invokevirtual 100, .ifCond .eq (.ofNat 1), .iload 2, .iconst (.ofNat 0), .iconst (.ofNat 60), .invokestatic 155, .ifCond .eq (.ofNat 1), .iload 3, .iconst (.ofNat 0), .iconst (.ofNat 2), .invokestatic 155, .ifCond .ne (.ofNat 2), .jsr (.ofNat 1)]
def b132_1 : List Instr := [.iconst (.negSucc 0), .ireturn]
def b132_2 : List Instr := [.aload 0, .fload 714, .aload 0, .fload 709, .fload 450, .aload 0, .invokevirtual 152, .iload 2, .invokevirtual 82, .astore 4, .iload 3, .ifCond .ne (.ofNat 3), .aload 4, .iload 1, .invokevirtual 102, .ireturn]
def b132_3 : List Instr := [.iload 3, .iconst (.ofNat 1), .if_icmp .ne (.ofNat 4), .aload 4, .iload 1, .invokevirtual 104, .goto (.ofNat 5)]
def b132_4 : List Instr := [.aload 4, .iload 1, .iload 1, .invokevirtual 107, .jsr (.ofNat 5)]
def b132_5 : List Instr := [.ireturn]
-- X11_ahead
def b132 : Nat → List Instr := fun t => [b132_0, b132_1, b132_2, b132_3, b132_4, b132_5].getD t []
def q132 : Nat → Nat := fun t => [0, 33, 35, 67, 81, 88].getD t 0
def b133_0 : List Instr := [.aload 0, .fload 709, .fload 450, .getfield 640, .ifCond .eq (.ofNat 1), .aload 0, .fload 714, .aload 0, .fload 709, .fload 450, .aload 0, .invokevirtual 152, .invokevirtual 83, .goto (.ofNat 2)]
def b133_1 : List Instr := [.iconst (.negSucc 0), .jsr (.ofNat 2)]
def b133_2 : List Instr := [.ireturn]
-- X11_over
def b133 : Nat → List Instr := fun t => [b133_0, b133_1, b133_2].getD t []
def q133 : Nat → Nat := fun t => [0, 34, 35].getD t 0
def b134_0 : List Instr := [.aload 0, .fload 709, .fload 450, .astore 2, .aload 2, .getfield 640, .ifCond .eq (.ofNat 1), .iload 1, .iconst (.ofNat 0), .iconst (.ofNat 7), .invokestatic 155, .ifCond .ne (.ofNat 2), .jsr (.ofNat 1)]
def b134_1 : List Instr := [.iconst (.negSucc 2), .ireturn]
def b134_2 : List Instr := [.iload 1, .iconst (.ofNat 2), .if_icmp .lt (.ofNat 4), .aload 2, .iload 1, .iconst (.ofNat 2), .isub, .invokevirtual 100, .ifCond .eq (.ofNat 3), .aload 2, .iload 1, .iconst (.ofNat 2), .isub, .invokevirtual 102, .ifCond .eq (.ofNat 4), .jsr (.ofNat 3)]
def b134_3 : List Instr := [.iconst (.negSucc 1), .ireturn]
def b134_4 : List Instr := [.aload 0, .fload 713, .aload 2, .invokevirtual 27, .iload 1, .ifCond .ne (.ofNat 5), .aload 0, .fload 713, .getfield 256, .ireturn]
def b134_5 : List Instr := [.iload 1, .iconst (.ofNat 1), .if_icmp .ne (.ofNat 6), .aload 0, .fload 713, .getfield 257, .goto (.ofNat 7)]
def b134_6 : List Instr := [.aload 0, .fload 713, .fload 258, .iload 1, .iconst (.ofNat 2), .isub, .iaload, .jsr (.ofNat 7)]
def b134_7 : List Instr := [.ireturn]
-- X11_most
def b134 : Nat → List Instr := fun t => [b134_0, b134_1, b134_2, b134_3, b134_4, b134_5, b134_6, b134_7].getD t []
def q134 : Nat → Nat := fun t => [0, 25, 28, 53, 56, 76, 91, 102].getD t 0
def b135_0 : List Instr := [.aload 0, .fload 709, .fload 450, .getfield 640, .ifCond .eq (.ofNat 1), .iload 1, .iconst (.ofNat 0), .iconst (.ofNat 2), .invokestatic 155, .ifCond .ne (.ofNat 2), .jsr (.ofNat 1)]
def b135_1 : List Instr := [.iconst (.negSucc 2), .ireturn]
def b135_2 : List Instr := [.aload 0, .fload 713, .aload 0, .fload 709, .fload 450, .iload 1, .invokevirtual 30, .ireturn]
-- X11_fewest
def b135 : Nat → List Instr := fun t => [b135_0, b135_1, b135_2].getD t []
def q135 : Nat → Nat := fun t => [0, 22, 25].getD t 0
def b136_0 : List Instr := [.aload 0, .fload 709, .fload 450, .getfield 640, .ifCond .eq (.ofNat 1), .iload 1, .iconst (.ofNat 0), .iconst (.ofNat 1), .invokestatic 155, .ifCond .ne (.ofNat 2), .jsr (.ofNat 1)]
def b136_1 : List Instr := [.iconst (.negSucc 0), .ireturn]
def b136_2 : List Instr := [.aload 0, .fload 713, .aload 0, .fload 709, .fload 450, .invokevirtual 37, .istore 2, .iload 2, .ifCond .ne (.ofNat 3), .iconst (.negSucc 1), .ireturn]
def b136_3 : List Instr := [.iload 1, .ifCond .ne (.ofNat 4), .iload 2, .invokestatic 276, .goto (.ofNat 5)]
def b136_4 : List Instr := [.iload 2, .jsr (.ofNat 5)]
def b136_5 : List Instr := [.ireturn]
-- X11_ring
def b136 : Nat → List Instr := fun t => [b136_0, b136_1, b136_2, b136_3, b136_4, b136_5].getD t []
def q136 : Nat → Nat := fun t => [0, 22, 24, 46, 57, 58].getD t 0
def b137_0 : List Instr := [.aload 0, .fload 709, .fload 450, .getfield 640, .ifCond .eq (.ofNat 1), .iload 1, .iconst (.ofNat 0), .iconst (.ofNat 2), .invokestatic 155, .ifCond .ne (.ofNat 2), .jsr (.ofNat 1)]
def b137_1 : List Instr := [.iconst (.negSucc 1), .ireturn]
def b137_2 : List Instr := [.aload 0, .fload 714, .aload 0, .fload 709, .fload 450, .invokevirtual 84, .iload 1, .ifCond .ne (.ofNat 3), .aload 0, .fload 714, .getfield 578, .ireturn]
def b137_3 : List Instr := [.iload 1, .iconst (.ofNat 1), .if_icmp .ne (.ofNat 4), .aload 0, .fload 714, .getfield 576, .goto (.ofNat 5)]
def b137_4 : List Instr := [.aload 0, .fload 714, .getfield 577, .jsr (.ofNat 5)]
def b137_5 : List Instr := [.ireturn]
-- X11_oneRemark
def b137 : Nat → List Instr := fun t => [b137_0, b137_1, b137_2, b137_3, b137_4, b137_5].getD t []
def q137 : Nat → Nat := fun t => [0, 22, 25, 51, 66, 73].getD t 0
def b138_0 : List Instr := [.aload 0, .fload 709, .fload 450, .iload 1, .invokevirtual 100, .ifCond .eq (.ofNat 1), .aload 0, .fload 714, .aload 0, .fload 709, .fload 450, .iload 1, .invokevirtual 86, .goto (.ofNat 2)]
def b138_1 : List Instr := [.iconst (.negSucc 0), .jsr (.ofNat 2)]
def b138_2 : List Instr := [.ireturn]
-- X11_rise
def b138 : Nat → List Instr := fun t => [b138_0, b138_1, b138_2].getD t []
def q138 : Nat → Nat := fun t => [0, 32, 33].getD t 0
def b139_0 : List Instr := [.aload 0, .fload 709, .fload 450, .getfield 640, .ifCond .eq (.ofNat 1), .aload 0, .fload 713, .aload 0, .fload 709, .fload 450, .invokevirtual 40, .goto (.ofNat 2)]
def b139_1 : List Instr := [.iconst (.negSucc 0), .jsr (.ofNat 2)]
def b139_2 : List Instr := [.ireturn]
-- X11_fair
def b139 : Nat → List Instr := fun t => [b139_0, b139_1, b139_2].getD t []
def q139 : Nat → Nat := fun t => [0, 30, 31].getD t 0
def b140_0 : List Instr := [.aload 0, .fload 709, .fload 450, .astore 3, .aload 0, .iload 1, .iload 2, .invokevirtual 154, .ifCond .eq (.ofNat 1), .aload 3, .iload 1, .invokevirtual 102, .aload 3, .iload 2, .invokevirtual 102, .if_icmp .eq (.ofNat 2), .jsr (.ofNat 1)]
def b140_1 : List Instr := [.iconst (.negSucc 0), .ireturn]
def b140_2 : List Instr := [.aload 0, .fload 714, .aload 3, .iload 1, .iload 2, .invokevirtual 87, .ireturn]
-- X11_self
def b140 : Nat → List Instr := fun t => [b140_0, b140_1, b140_2].getD t []
def q140 : Nat → Nat := fun t => [0, 30, 32].getD t 0
def b141_0 : List Instr := [.aload 0, .fload 709, .fload 450, .getfield 640, .ifCond .eq (.ofNat 1), .iload 1, .iconst (.ofNat 1), .iconst (.ofNat 30), .invokestatic 155, .ifCond .eq (.ofNat 1), .iload 2, .iconst (.ofNat 0), .iconst (.ofNat 1), .invokestatic 155, .ifCond .ne (.ofNat 2), .jsr (.ofNat 1)]
def b141_1 : List Instr := [.iconst (.negSucc 1), .ireturn]
def b141_2 : List Instr := [.aload 0, .fload 714, .aload 0, .fload 709, .fload 450, .aload 0, .invokevirtual 152, .iload 1, .invokevirtual 88, .iload 2, .ifCond .ne (.ofNat 3), .aload 0, .fload 714, .getfield 576, .goto (.ofNat 4)]
def b141_3 : List Instr := [.aload 0, .fload 714, .getfield 578, .jsr (.ofNat 4)]
def b141_4 : List Instr := [.ireturn]
-- X11_hired
def b141 : Nat → List Instr := fun t => [b141_0, b141_1, b141_2, b141_3, b141_4].getD t []
def q141 : Nat → Nat := fun t => [0, 32, 35, 68, 75].getD t 0
def b142_0 : List Instr := [.aload 0, .iload 1, .iload 2, .invokevirtual 154, .ifCond .eq (.ofNat 1), .iload 3, .iconst (.ofNat 1), .iconst (.ofNat 20), .invokestatic 155, .ifCond .eq (.ofNat 1), .iload 4, .iconst (.ofNat 0), .iconst (.ofNat 2), .invokestatic 155, .ifCond .ne (.ofNat 2), .jsr (.ofNat 1)]
def b142_1 : List Instr := [.iconst (.negSucc 0), .ireturn]
def b142_2 : List Instr := [.aload 0, .fload 714, .aload 0, .fload 709, .fload 450, .aload 0, .invokevirtual 152, .iload 1, .iload 2, .iload 3, .invokevirtual 89, .aload 0, .fload 714, .iload 4, .invokevirtual 90, .ireturn]
-- X11_rests
def b142 : Nat → List Instr := fun t => [b142_0, b142_1, b142_2].getD t []
def q142 : Nat → Nat := fun t => [0, 29, 31].getD t 0
def b143_0 : List Instr := [.aload 0, .fload 709, .fload 450, .astore 3, .aload 0, .iload 1, .iload 2, .invokevirtual 154, .ifCond .eq (.ofNat 1), .aload 3, .iload 1, .invokevirtual 102, .ifCond .ne (.ofNat 1), .aload 3, .iload 2, .invokevirtual 102, .ifCond .ne (.ofNat 1), .aload 3, .iload 2, .iload 2, .invokevirtual 111, .ifCond .eq (.ofNat 2), .jsr (.ofNat 1)]
def b143_1 : List Instr := [.iconst (.negSucc 0), .ireturn]
def b143_2 : List Instr := [.aload 0, .fload 714, .aload 3, .aload 0, .invokevirtual 152, .iload 1, .iload 2, .invokevirtual 92, .ireturn]
-- X11_price
def b143 : Nat → List Instr := fun t => [b143_0, b143_1, b143_2].getD t []
def q143 : Nat → Nat := fun t => [0, 42, 44].getD t 0
