def b48_0 : List Instr := [.aload 0, .getfield 388, .tableswitch (.ofNat 5) 0 3 #[.ofNat 1, .ofNat 2, .ofNat 3, .ofNat 4]]
def b48_1 : List Instr := [.aload 0, .aload 1, .invokevirtual 49, .goto (.ofNat 6)]
def b48_2 : List Instr := [.aload 0, .aload 1, .invokevirtual 50, .goto (.ofNat 6)]
def b48_3 : List Instr := [.aload 0, .aload 1, .invokevirtual 51, .goto (.ofNat 6)]
def b48_4 : List Instr := [.aload 0, .aload 1, .invokevirtual 53, .goto (.ofNat 6)]
def b48_5 : List Instr := [.aload 0, .aload 1, .invokevirtual 55, .jsr (.ofNat 6)]
def b48_6 : List Instr := [.return_]
-- X6_takeToken
def b48 : Nat → List Instr := fun t => [b48_0, b48_1, b48_2, b48_3, b48_4, b48_5, b48_6].getD t []
def q48 : Nat → Nat := fun t => [0, 36, 44, 52, 60, 68, 73].getD t 0
def b49_0 : List Instr := [.aload 1, .ldc 2, .invokevirtual 76, .ifCond .ne (.ofNat 1), .aload 0, .aload 1, .iconst (.ofNat 0), .invokevirtual 80, .putfield 394, .goto (.ofNat 3)]
def b49_1 : List Instr := [.aload 0, .getfield 390, .iconst (.ofNat 12), .if_icmp .lt (.ofNat 2), .aload 0, .aload 1, .iconst (.ofNat 4), .invokevirtual 80, .putfield 394, .goto (.ofNat 3)]
def b49_2 : List Instr := [.aload 0, .dup, .getfield 390, .iconst (.ofNat 1), .iadd, .putfield 390, .aload 0, .iconst (.ofNat 0), .putfield 389, .aload 0, .iconst (.ofNat 1), .putfield 388, .jsr (.ofNat 3)]
def b49_3 : List Instr := [.return_]
-- X6_takeGo
def b49 : Nat → List Instr := fun t => [b49_0, b49_1, b49_2, b49_3].getD t []
def q49 : Nat → Nat := fun t => [0, 21, 42, 62].getD t 0
def b50_0 : List Instr := [.aload 1, .ldc 3, .invokevirtual 77, .istore 2, .aload 1, .getfield 514, .iconst (.ofNat 258), .if_icmp .eq (.ofNat 1), .iload 2, .iconst (.negSucc 0), .if_icmp .ne (.ofNat 1), .aload 0, .aload 1, .iconst (.ofNat 0), .invokevirtual 80, .putfield 394, .goto (.ofNat 6)]
def b50_1 : List Instr := [.aload 1, .getfield 514, .iconst (.ofNat 258), .if_icmp .ne (.ofNat 2), .aload 1, .getfield 515, .iconst (.negSucc 0), .if_icmp .ne (.ofNat 2), .aload 0, .aload 1, .iconst (.ofNat 1), .invokevirtual 80, .putfield 394, .goto (.ofNat 6)]
def b50_2 : List Instr := [.aload 0, .getfield 393, .iconst (.ofNat 60), .if_icmp .lt (.ofNat 3), .aload 0, .aload 1, .iconst (.ofNat 3), .invokevirtual 80, .putfield 394, .goto (.ofNat 6)]
def b50_3 : List Instr := [.aload 0, .dup, .getfield 393, .iconst (.ofNat 1), .iadd, .putfield 393, .aload 0, .iload 2, .iconst (.negSucc 0), .if_icmp .ne (.ofNat 4), .iconst (.ofNat 32), .aload 1, .getfield 515, .iadd, .goto (.ofNat 5)]
def b50_4 : List Instr := [.iload 2, .jsr (.ofNat 5)]
def b50_5 : List Instr := [.invokevirtual 61, .aload 0, .iconst (.ofNat 3), .putfield 388, .jsr (.ofNat 6)]
def b50_6 : List Instr := [.return_]
-- X6_takeValue
def b50 : Nat → List Instr := fun t => [b50_0, b50_1, b50_2, b50_3, b50_4, b50_5, b50_6].getD t []
def q50 : Nat → Nat := fun t => [0, 34, 64, 85, 111, 112, 120].getD t 0
def b51_0 : List Instr := [.aload 1, .getfield 514, .iconst (.ofNat 91), .if_icmp .ne (.ofNat 1), .aload 0, .aload 1, .iconst (.ofNat 25), .invokevirtual 52, .goto (.ofNat 3)]
def b51_1 : List Instr := [.aload 1, .ldc 4, .invokevirtual 76, .ifCond .eq (.ofNat 2), .aload 0, .aload 1, .iconst (.ofNat 22), .invokevirtual 52, .goto (.ofNat 3)]
def b51_2 : List Instr := [.aload 0, .iconst (.ofNat 1), .putfield 389, .aload 0, .aload 1, .invokevirtual 50, .jsr (.ofNat 3)]
def b51_3 : List Instr := [.return_]
-- X6_takeFact
def b51 : Nat → List Instr := fun t => [b51_0, b51_1, b51_2, b51_3].getD t []
def q51 : Nat → Nat := fun t => [0, 19, 38, 48].getD t 0
def b52_0 : List Instr := [.aload 0, .getfield 391, .iconst (.ofNat 10), .if_icmp .lt (.ofNat 1), .aload 0, .aload 1, .iconst (.ofNat 2), .invokevirtual 80, .putfield 394, .return_]
def b52_1 : List Instr := [.aload 0, .dup, .getfield 391, .iconst (.ofNat 1), .iadd, .putfield 391, .iload 2, .iconst (.ofNat 25), .if_icmp .ne (.ofNat 2), .aload 0, .dup, .getfield 392, .iconst (.ofNat 1), .iadd, .putfield 392, .jsr (.ofNat 2)]
def b52_2 : List Instr := [.aload 0, .iload 2, .invokevirtual 60, .return_]
-- X6_opn
def b52 : Nat → List Instr := fun t => [b52_0, b52_1, b52_2].getD t []
def q52 : Nat → Nat := fun t => [0, 19, 45].getD t 0
def b53_0 : List Instr := [.aload 1, .getfield 514, .invokestatic 62, .istore 2, .aload 1, .getfield 514, .invokestatic 63, .istore 3, .iload 2, .iconst (.negSucc 0), .if_icmp .eq (.ofNat 1), .aload 0, .iload 2, .iconst (.ofNat 1), .invokevirtual 56, .goto (.ofNat 6)]
def b53_1 : List Instr := [.aload 0, .getfield 389, .iconst (.ofNat 1), .if_icmp .ne (.ofNat 2), .iload 3, .iconst (.negSucc 0), .if_icmp .eq (.ofNat 2), .aload 0, .aload 1, .iload 3, .invokevirtual 54, .goto (.ofNat 6)]
def b53_2 : List Instr := [.aload 0, .getfield 389, .iconst (.ofNat 2), .if_icmp .ne (.ofNat 3), .aload 0, .aload 1, .invokevirtual 55, .goto (.ofNat 6)]
def b53_3 : List Instr := [.aload 0, .getfield 389, .ifCond .ne (.ofNat 4), .aload 1, .ldc 5, .invokevirtual 76, .ifCond .eq (.ofNat 4), .aload 0, .iconst (.ofNat 1), .invokevirtual 59, .aload 0, .iconst (.ofNat 2), .putfield 388, .goto (.ofNat 6)]
def b53_4 : List Instr := [.aload 0, .getfield 389, .ifCond .ne (.ofNat 5), .aload 1, .invokevirtual 79, .ifCond .eq (.ofNat 5), .aload 0, .aload 1, .iconst (.ofNat 26), .invokevirtual 58, .goto (.ofNat 6)]
def b53_5 : List Instr := [.aload 0, .aload 1, .iconst (.ofNat 0), .invokevirtual 80, .putfield 394, .jsr (.ofNat 6)]
def b53_6 : List Instr := [.return_]
-- X6_takeBehindValue
def b53 : Nat → List Instr := fun t => [b53_0, b53_1, b53_2, b53_3, b53_4, b53_5, b53_6].getD t []
def q53 : Nat → Nat := fun t => [0, 30, 52, 68, 97, 121, 130].getD t 0
def b54_0 : List Instr := [.aload 0, .getfield 393, .iconst (.ofNat 60), .if_icmp .lt (.ofNat 1), .aload 0, .aload 1, .iconst (.ofNat 3), .invokevirtual 80, .putfield 394, .return_]
def b54_1 : List Instr := [.aload 0, .dup, .getfield 393, .iconst (.ofNat 1), .iadd, .putfield 393, .aload 0, .iconst (.ofNat 2), .putfield 389, .aload 0, .iload 2, .iconst (.ofNat 1), .invokevirtual 56, .return_]
-- X6_takeComparison
def b54 : Nat → List Instr := fun t => [b54_0, b54_1].getD t []
def q54 : Nat → Nat := fun t => [0, 19].getD t 0
def b55_0 : List Instr := [.aload 1, .ldc 6, .invokevirtual 76, .ifCond .eq (.ofNat 1), .aload 0, .iconst (.ofNat 23), .iconst (.ofNat 2), .invokevirtual 56, .goto (.ofNat 5)]
def b55_1 : List Instr := [.aload 1, .ldc 7, .invokevirtual 76, .ifCond .eq (.ofNat 2), .aload 0, .iconst (.ofNat 24), .iconst (.ofNat 2), .invokevirtual 56, .goto (.ofNat 5)]
def b55_2 : List Instr := [.aload 1, .getfield 514, .iconst (.ofNat 93), .if_icmp .ne (.ofNat 3), .aload 0, .getfield 392, .ifCond .le (.ofNat 3), .aload 0, .invokevirtual 57, .goto (.ofNat 5)]
def b55_3 : List Instr := [.aload 1, .invokevirtual 79, .ifCond .eq (.ofNat 4), .aload 0, .getfield 392, .ifCond .ne (.ofNat 4), .aload 0, .aload 1, .iconst (.ofNat 27), .invokevirtual 58, .goto (.ofNat 5)]
def b55_4 : List Instr := [.aload 0, .aload 1, .iconst (.ofNat 0), .invokevirtual 80, .putfield 394, .jsr (.ofNat 5)]
def b55_5 : List Instr := [.return_]
-- X6_takeBehindFact
def b55 : Nat → List Instr := fun t => [b55_0, b55_1, b55_2, b55_3, b55_4, b55_5].getD t []
def q55 : Nat → Nat := fun t => [0, 19, 38, 61, 85, 94].getD t 0
def b56_0 : List Instr := [.aload 0, .iload 1, .invokestatic 42, .invokevirtual 59, .aload 0, .iload 1, .invokevirtual 60, .aload 0, .iload 2, .putfield 388, .return_]
-- X6_takeBetween
def b56 : Nat → List Instr := fun t => [b56_0].getD t []
def q56 : Nat → Nat := fun t => [0].getD t 0
def b57_0 : List Instr := [.aload 0, .iconst (.ofNat 1), .invokevirtual 59, .aload 0, .getfield 387, .ifCond .le (.ofNat 1), .aload 0, .dup, .getfield 387, .iconst (.ofNat 1), .isub, .putfield 387, .jsr (.ofNat 1)]
def b57_1 : List Instr := [.aload 0, .dup, .getfield 391, .iconst (.ofNat 1), .isub, .putfield 391, .aload 0, .dup, .getfield 392, .iconst (.ofNat 1), .isub, .putfield 392, .aload 0, .iconst (.ofNat 4), .putfield 388, .return_]
-- X6_close
def b57 : Nat → List Instr := fun t => [b57_0, b57_1].getD t []
def q57 : Nat → Nat := fun t => [0, 22].getD t 0
def b58_0 : List Instr := [.aload 0, .iconst (.ofNat 1), .invokevirtual 59, .aload 0, .iload 2, .invokevirtual 61, .aload 0, .aload 1, .getfield 514, .iconst (.ofNat 256), .if_icmp .ne (.ofNat 1), .iconst (.ofNat 5), .goto (.ofNat 2)]
def b58_1 : List Instr := [.iconst (.ofNat 0), .jsr (.ofNat 2)]
def b58_2 : List Instr := [.putfield 388, .return_]
-- X6_endClause
def b58 : Nat → List Instr := fun t => [b58_0, b58_1, b58_2].getD t []
def q58 : Nat → Nat := fun t => [0, 25, 26].getD t 0
def b59_0 : List Instr := [.aload 0, .getfield 387, .ifCond .le (.ofNat 2), .aload 0, .fload 386, .aload 0, .getfield 387, .iconst (.ofNat 1), .isub, .iaload, .invokestatic 42, .iload 1, .if_icmp .lt (.ofNat 2), .aload 0, .dup, .getfield 387, .iconst (.ofNat 1), .isub, .putfield 387, .aload 0, .fload 386, .aload 0, .getfield 387, .iaload, .iconst (.ofNat 22), .if_icmp .ne (.ofNat 1), .aload 0, .dup, .getfield 391, .iconst (.ofNat 1), .isub, .putfield 391, .jsr (.ofNat 1)]
def b59_1 : List Instr := [.aload 0, .aload 0, .fload 386, .aload 0, .getfield 387, .iaload, .invokevirtual 61, .goto (.ofNat 0)]
def b59_2 : List Instr := [.return_]
-- X6_settle
def b59 : Nat → List Instr := fun t => [b59_0, b59_1, b59_2].getD t []
def q59 : Nat → Nat := fun t => [0, 59, 75].getD t 0
def b60_0 : List Instr := [.aload 0, .getfield 387, .iconst (.ofNat 64), .if_icmp .ge (.ofNat 1), .aload 0, .fload 386, .aload 0, .getfield 387, .iload 1, .iastore, .aload 0, .dup, .getfield 387, .iconst (.ofNat 1), .iadd, .putfield 387, .jsr (.ofNat 1)]
def b60_1 : List Instr := [.return_]
-- X6_await
def b60 : Nat → List Instr := fun t => [b60_0, b60_1].getD t []
def q60 : Nat → Nat := fun t => [0, 29].getD t 0
def b61_0 : List Instr := [.aload 0, .getfield 385, .aload 0, .fload 384, .arraylength, .if_icmp .ge (.ofNat 1), .aload 0, .fload 384, .aload 0, .getfield 385, .iload 1, .iastore, .aload 0, .dup, .getfield 385, .iconst (.ofNat 1), .iadd, .putfield 385, .jsr (.ofNat 1)]
def b61_1 : List Instr := [.return_]
-- X6_emit
def b61 : Nat → List Instr := fun t => [b61_0, b61_1].getD t []
def q61 : Nat → Nat := fun t => [0, 32].getD t 0
def b62_0 : List Instr := [.iload 0, .tableswitch (.ofNat 6) 37 47 #[.ofNat 5, .ofNat 6, .ofNat 6, .ofNat 6, .ofNat 6, .ofNat 3, .ofNat 1, .ofNat 6, .ofNat 2, .ofNat 6, .ofNat 4]]
def b62_1 : List Instr := [.iconst (.ofNat 15), .ireturn]
def b62_2 : List Instr := [.iconst (.ofNat 16), .ireturn]
def b62_3 : List Instr := [.iconst (.ofNat 12), .ireturn]
def b62_4 : List Instr := [.iconst (.ofNat 13), .ireturn]
def b62_5 : List Instr := [.iconst (.ofNat 14), .ireturn]
def b62_6 : List Instr := [.iconst (.negSucc 0), .ireturn]
-- X6_reckoningOf
def b62 : Nat → List Instr := fun t => [b62_0, b62_1, b62_2, b62_3, b62_4, b62_5, b62_6].getD t []
def q62 : Nat → Nat := fun t => [0, 60, 63, 66, 69, 72, 75].getD t 0
def b63_0 : List Instr := [.iload 0, .lookupswitch (.ofNat 6) #[(60, .ofNat 1), (61, .ofNat 3), (62, .ofNat 5), (259, .ofNat 2), (260, .ofNat 4)]]
def b63_1 : List Instr := [.iconst (.ofNat 17), .ireturn]
def b63_2 : List Instr := [.iconst (.ofNat 18), .ireturn]
def b63_3 : List Instr := [.iconst (.ofNat 19), .ireturn]
def b63_4 : List Instr := [.iconst (.ofNat 20), .ireturn]
def b63_5 : List Instr := [.iconst (.ofNat 21), .ireturn]
def b63_6 : List Instr := [.iconst (.negSucc 0), .ireturn]
-- X6_comparisonOf
def b63 : Nat → List Instr := fun t => [b63_0, b63_1, b63_2, b63_3, b63_4, b63_5, b63_6].getD t []
def q63 : Nat → Nat := fun t => [0, 52, 55, 58, 61, 64, 67].getD t 0
def b64_0 : List Instr := [.aload 0, .monitorenter, .aload 0, .new 10, .dup, .invokespecial 96, .fstore 449, .aload 0, .new 10, .dup, .invokespecial 96, .fstore 450, .aload 0, .iconst (.ofNat 10), .newarray .int, .fstore 451, .aload 0, .iconst (.ofNat 10), .newarray .int, .fstore 452, .aload 0, .iconst (.ofNat 10), .newarray .int, .fstore 453, .aload 0, .iconst (.negSucc 0), .putfield 456, .return_]
-- X7_init
def b64 : Nat → List Instr := fun t => [b64_0].getD t []
def q64 : Nat → Nat := fun t => [0].getD t 0
def b65_0 : List Instr := [.aload 0, .fload 449, .aload 1, .fload 449, .invokevirtual 97, .aload 0, .fload 450, .aload 1, .fload 450, .invokevirtual 97, .aload 1, .fload 451, .iconst (.ofNat 0), .aload 0, .fload 451, .iconst (.ofNat 0), .iconst (.ofNat 10), .caload, .aload 1, .fload 452, .iconst (.ofNat 0), .aload 0, .fload 452, .iconst (.ofNat 0), .iconst (.ofNat 10), .caload, .aload 1, .fload 453, .iconst (.ofNat 0), .aload 0, .fload 453, .iconst (.ofNat 0), .iconst (.ofNat 10), .caload, .aload 0, .aload 1, .getfield 454, .putfield 454, .aload 0, .aload 1, .getfield 455, .putfield 455, .aload 0, .aload 1, .getfield 456, .putfield 456, .return_]
-- X7_copyFrom
def b65 : Nat → List Instr := fun t => [b65_0].getD t []
def q65 : Nat → Nat := fun t => [0].getD t 0
def b66_0 : List Instr := [.aload 0, .getfield 454, .iconst (.ofNat 10), .if_icmp .ge (.ofNat 1), .iconst (.ofNat 1), .goto (.ofNat 2)]
def b66_1 : List Instr := [.iconst (.ofNat 0), .jsr (.ofNat 2)]
def b66_2 : List Instr := [.ireturn]
-- X7_hasNoteRoom
def b66 : Nat → List Instr := fun t => [b66_0, b66_1, b66_2].getD t []
def q66 : Nat → Nat := fun t => [0, 13, 14].getD t 0
def b67_0 : List Instr := [.aload 0, .invokevirtual 66, .ifCond .eq (.ofNat 1), .aload 0, .fload 451, .aload 0, .getfield 454, .iload 1, .iastore, .aload 0, .fload 452, .aload 0, .getfield 454, .iload 2, .iastore, .aload 0, .fload 453, .aload 0, .getfield 454, .iload 3, .iastore, .aload 0, .dup, .getfield 454, .iconst (.ofNat 1), .iadd, .putfield 454, .jsr (.ofNat 1)]
def b67_1 : List Instr := [.return_]
-- X7_addNote
def b67 : Nat → List Instr := fun t => [b67_0, b67_1].getD t []
def q67 : Nat → Nat := fun t => [0, 47].getD t 0
def b68_0 : List Instr := [.aload 0, .monitorenter, .aload 0, .iconst (.ofNat 400), .newarray .byte, .fstore 512, .return_]
-- X8_init
def b68 : Nat → List Instr := fun t => [b68_0].getD t []
def q68 : Nat → Nat := fun t => [0].getD t 0
def b69_0 : List Instr := [.aload 0, .getfield 513, .iload 1, .iadd, .iconst (.ofNat 400), .if_icmp .gt (.ofNat 1), .iconst (.ofNat 1), .goto (.ofNat 2)]
def b69_1 : List Instr := [.iconst (.ofNat 0), .jsr (.ofNat 2)]
def b69_2 : List Instr := [.ireturn]
-- X8_hasRoom
def b69 : Nat → List Instr := fun t => [b69_0, b69_1, b69_2].getD t []
def q69 : Nat → Nat := fun t => [0, 16, 17].getD t 0
def b70_0 : List Instr := [.iconst (.ofNat 24), .istore 2, .jsr (.ofNat 1)]
def b70_1 : List Instr := [.iload 2, .ifCond .lt (.ofNat 2), .aload 0, .getfield 513, .iconst (.ofNat 400), .if_icmp .ge (.ofNat 2), .aload 0, .fload 512, .aload 0, .getfield 513, .iload 1, .iload 2, .ishr, .i2b, .bastore, .aload 0, .dup, .getfield 513, .iconst (.ofNat 1), .iadd, .putfield 513, .iinc 2 (.negSucc 7), .goto (.ofNat 1)]
def b70_2 : List Instr := [.return_]
-- X8_take
def b70 : Nat → List Instr := fun t => [b70_0, b70_1, b70_2].getD t []
def q70 : Nat → Nat := fun t => [0, 3, 46].getD t 0
def b71_0 : List Instr := [.aload 0, .iconst (.ofNat 0), .putfield 517, .return_]
-- X8_rewind
def b71 : Nat → List Instr := fun t => [b71_0].getD t []
def q71 : Nat → Nat := fun t => [0].getD t 0
def b72_0 : List Instr := [.aload 0, .aload 0, .getfield 517, .putfield 516, .jsr (.ofNat 1)]
def b72_1 : List Instr := [.aload 0, .getfield 516, .aload 0, .getfield 513, .if_icmp .ge (.ofNat 2), .aload 0, .fload 512, .aload 0, .getfield 516, .baload, .iconst (.ofNat 32), .if_icmp .ne (.ofNat 2), .aload 0, .dup, .getfield 516, .iconst (.ofNat 1), .iadd, .putfield 516, .goto (.ofNat 1)]
def b72_2 : List Instr := [.aload 0, .aload 0, .getfield 516, .putfield 517, .aload 0, .getfield 516, .aload 0, .getfield 513, .if_icmp .lt (.ofNat 3), .aload 0, .iconst (.ofNat 256), .putfield 514, .return_]
def b72_3 : List Instr := [.aload 0, .fload 512, .aload 0, .getfield 516, .baload, .iconst (.ofNat 255), .iand, .istore 1, .iload 1, .iconst (.ofNat 97), .if_icmp .lt (.ofNat 4), .iload 1, .iconst (.ofNat 122), .if_icmp .gt (.ofNat 4), .aload 0, .iconst (.ofNat 257), .putfield 514, .aload 0, .iconst (.ofNat 97), .iconst (.ofNat 122), .invokevirtual 73, .goto (.ofNat 6)]
def b72_4 : List Instr := [.iload 1, .iconst (.ofNat 48), .if_icmp .lt (.ofNat 5), .iload 1, .iconst (.ofNat 57), .if_icmp .gt (.ofNat 5), .aload 0, .iconst (.ofNat 258), .putfield 514, .aload 0, .iconst (.ofNat 48), .iconst (.ofNat 57), .invokevirtual 73, .aload 0, .aload 0, .invokevirtual 74, .putfield 515, .goto (.ofNat 6)]
def b72_5 : List Instr := [.aload 0, .iload 1, .invokevirtual 75, .jsr (.ofNat 6)]
def b72_6 : List Instr := [.return_]
-- X8_advance
def b72 : Nat → List Instr := fun t => [b72_0, b72_1, b72_2, b72_3, b72_4, b72_5, b72_6].getD t []
def q72 : Nat → Nat := fun t => [0, 8, 46, 73, 117, 155, 160].getD t 0
def b73_0 : List Instr := [.aload 0, .getfield 517, .aload 0, .getfield 513, .if_icmp .ge (.ofNat 1), .aload 0, .fload 512, .aload 0, .getfield 517, .baload, .iload 1, .if_icmp .lt (.ofNat 1), .aload 0, .fload 512, .aload 0, .getfield 517, .baload, .iload 2, .if_icmp .gt (.ofNat 1), .aload 0, .dup, .getfield 517, .iconst (.ofNat 1), .iadd, .putfield 517, .goto (.ofNat 0)]
def b73_1 : List Instr := [.return_]
-- X8_passWhile
def b73 : Nat → List Instr := fun t => [b73_0, b73_1].getD t []
def q73 : Nat → Nat := fun t => [0, 50].getD t 0
def b74_0 : List Instr := [.aload 0, .getfield 517, .aload 0, .getfield 516, .isub, .iconst (.ofNat 5), .if_icmp .le (.ofNat 1), .iconst (.negSucc 0), .ireturn]
def b74_1 : List Instr := [.iconst (.ofNat 0), .istore 1, .aload 0, .getfield 516, .istore 2, .jsr (.ofNat 2)]
def b74_2 : List Instr := [.iload 2, .aload 0, .getfield 517, .if_icmp .ge (.ofNat 3), .iconst (.ofNat 10), .iload 1, .imul, .aload 0, .fload 512, .iload 2, .baload, .iconst (.ofNat 48), .isub, .iadd, .istore 1, .iinc 2 (.ofNat 1), .goto (.ofNat 2)]
def b74_3 : List Instr := [.iload 1, .ireturn]
-- X8_numberHere
def b74 : Nat → List Instr := fun t => [b74_0, b74_1, b74_2, b74_3].getD t []
def q74 : Nat → Nat := fun t => [0, 15, 22, 51].getD t 0
def b75_0 : List Instr := [.aload 0, .iload 1, .putfield 514, .aload 0, .aload 0, .getfield 516, .iconst (.ofNat 1), .iadd, .putfield 517, .aload 0, .getfield 517, .aload 0, .getfield 513, .if_icmp .ge (.ofNat 1), .aload 0, .fload 512, .aload 0, .getfield 517, .baload, .iconst (.ofNat 61), .if_icmp .ne (.ofNat 1), .iconst (.ofNat 1), .goto (.ofNat 2)]
def b75_1 : List Instr := [.iconst (.ofNat 0), .jsr (.ofNat 2)]
def b75_2 : List Instr := [.istore 2, .iload 2, .ifCond .eq (.ofNat 3), .iload 1, .iconst (.ofNat 60), .if_icmp .ne (.ofNat 3), .aload 0, .iconst (.ofNat 259), .putfield 514, .aload 0, .dup, .getfield 517, .iconst (.ofNat 1), .iadd, .putfield 517, .goto (.ofNat 4)]
def b75_3 : List Instr := [.iload 2, .ifCond .eq (.ofNat 4), .iload 1, .iconst (.ofNat 62), .if_icmp .ne (.ofNat 4), .aload 0, .iconst (.ofNat 260), .putfield 514, .aload 0, .dup, .getfield 517, .iconst (.ofNat 1), .iadd, .putfield 517, .jsr (.ofNat 4)]
def b75_4 : List Instr := [.return_]
-- X8_passSign
def b75 : Nat → List Instr := fun t => [b75_0, b75_1, b75_2, b75_3, b75_4].getD t []
def q75 : Nat → Nat := fun t => [0, 44, 45, 76, 103].getD t 0
def b76_0 : List Instr := [.aload 0, .getfield 514, .iconst (.ofNat 257), .if_icmp .ne (.ofNat 1), .aload 0, .aload 1, .iconst (.ofNat 0), .aload 1, .f2i, .invokevirtual 78, .ifCond .eq (.ofNat 1), .iconst (.ofNat 1), .goto (.ofNat 2)]
def b76_1 : List Instr := [.iconst (.ofNat 0), .jsr (.ofNat 2)]
def b76_2 : List Instr := [.ireturn]
-- X8_isWord
def b76 : Nat → List Instr := fun t => [b76_0, b76_1, b76_2].getD t []
def q76 : Nat → Nat := fun t => [0, 27, 28].getD t 0
def b77_0 : List Instr := [.iconst (.ofNat 0), .istore 2, .iconst (.ofNat 0), .istore 3, .iconst (.ofNat 0), .istore 4, .jsr (.ofNat 1)]
def b77_1 : List Instr := [.aload 0, .getfield 514, .iconst (.ofNat 257), .if_icmp .ne (.ofNat 5), .iload 4, .aload 1, .f2i, .if_icmp .gt (.ofNat 5), .iload 4, .aload 1, .f2i, .if_icmp .eq (.ofNat 2), .aload 1, .iload 4, .faload, .iconst (.ofNat 32), .if_icmp .ne (.ofNat 4), .jsr (.ofNat 2)]
def b77_2 : List Instr := [.aload 0, .aload 1, .iload 3, .iload 4, .invokevirtual 78, .ifCond .eq (.ofNat 3), .iload 2, .ireturn]
def b77_3 : List Instr := [.iinc 2 (.ofNat 1), .iload 4, .iconst (.ofNat 1), .iadd, .istore 3, .jsr (.ofNat 4)]
def b77_4 : List Instr := [.iinc 4 (.ofNat 1), .goto (.ofNat 1)]
def b77_5 : List Instr := [.iconst (.negSucc 0), .ireturn]
-- X8_wordAmong
def b77 : Nat → List Instr := fun t => [b77_0, b77_1, b77_2, b77_3, b77_4, b77_5].getD t []
def q77 : Nat → Nat := fun t => [0, 7, 46, 59, 67, 73].getD t 0
def b78_0 : List Instr := [.aload 0, .getfield 517, .aload 0, .getfield 516, .isub, .iload 3, .iload 2, .isub, .if_icmp .eq (.ofNat 1), .iconst (.ofNat 0), .ireturn]
def b78_1 : List Instr := [.iload 2, .istore 4, .jsr (.ofNat 2)]
def b78_2 : List Instr := [.iload 4, .iload 3, .if_icmp .ge (.ofNat 4), .aload 1, .iload 4, .faload, .aload 0, .fload 512, .aload 0, .getfield 516, .iload 4, .iadd, .iload 2, .isub, .baload, .if_icmp .eq (.ofNat 3), .iconst (.ofNat 0), .ireturn]
def b78_3 : List Instr := [.iinc 4 (.ofNat 1), .goto (.ofNat 2)]
def b78_4 : List Instr := [.iconst (.ofNat 1), .ireturn]
-- X8_isPartOf
def b78 : Nat → List Instr := fun t => [b78_0, b78_1, b78_2, b78_3, b78_4].getD t []
def q78 : Nat → Nat := fun t => [0, 17, 20, 51, 57].getD t 0
def b79_0 : List Instr := [.aload 0, .getfield 514, .iconst (.ofNat 256), .if_icmp .eq (.ofNat 1), .aload 0, .getfield 514, .iconst (.ofNat 59), .if_icmp .ne (.ofNat 2), .jsr (.ofNat 1)]
def b79_1 : List Instr := [.iconst (.ofNat 1), .goto (.ofNat 3)]
def b79_2 : List Instr := [.iconst (.ofNat 0), .jsr (.ofNat 3)]
def b79_3 : List Instr := [.ireturn]
-- X8_endsClause
def b79 : Nat → List Instr := fun t => [b79_0, b79_1, b79_2, b79_3].getD t []
def q79 : Nat → Nat := fun t => [0, 19, 23, 24].getD t 0
def b80_0 : List Instr := [.iconst (.ofNat 1), .iconst (.ofNat 8), .aload 0, .getfield 516, .imul, .iadd, .iload 1, .iadd, .ireturn]
-- X8_fault
def b80 : Nat → List Instr := fun t => [b80_0].getD t []
def q80 : Nat → Nat := fun t => [0].getD t 0
def b81_0 : List Instr := [.aload 0, .monitorenter, .aload 0, .new 10, .dup, .invokespecial 96, .fstore 581, .aload 0, .new 0, .dup, .invokespecial 0, .fstore 582, .aload 0, .iconst (.ofNat 25), .newarray .int, .fstore 583, .aload 0, .iconst (.ofNat 25), .newarray .int, .fstore 584, .return_]
-- X9_init
def b81 : Nat → List Instr := fun t => [b81_0].getD t []
def q81 : Nat → Nat := fun t => [0].getD t 0
def b82_0 : List Instr := [.aload 0, .fload 581, .aload 1, .invokevirtual 97, .aload 0, .fload 582, .aload 0, .fload 581, .aload 2, .iload 3, .invokevirtual 2, .aload 0, .fload 581, .areturn]
-- X9_after
def b82 : Nat → List Instr := fun t => [b82_0].getD t []
def q82 : Nat → Nat := fun t => [0].getD t 0
def b83_0 : List Instr := [.aload 0, .fload 581, .aload 1, .invokevirtual 97, .iconst (.ofNat 0), .istore 3, .jsr (.ofNat 1)]
def b83_1 : List Instr := [.iload 3, .iconst (.ofNat 60), .if_icmp .ge (.ofNat 3), .aload 0, .fload 581, .getfield 645, .aload 0, .fload 581, .invokevirtual 101, .if_icmp .ne (.ofNat 2), .aload 0, .fload 581, .getfield 644, .ireturn]
def b83_2 : List Instr := [.aload 0, .fload 582, .aload 0, .fload 581, .aload 2, .invokevirtual 1, .pop, .iinc 3 (.ofNat 1), .goto (.ofNat 1)]
def b83_3 : List Instr := [.iconst (.negSucc 1), .ireturn]
-- X9_dayAllOver
def b83 : Nat → List Instr := fun t => [b83_0, b83_1, b83_2, b83_3].getD t []
def q83 : Nat → Nat := fun t => [0, 10, 41, 60].getD t 0
def b84_0 : List Instr := [.aload 0, .fload 581, .aload 1, .invokevirtual 97, .aload 0, .iconst (.negSucc 0), .putfield 576, .aload 0, .iconst (.negSucc 0), .putfield 577, .aload 0, .aload 0, .invokevirtual 85, .putfield 578, .iconst (.ofNat 0), .istore 2, .jsr (.ofNat 1)]
def b84_1 : List Instr := [.iload 2, .aload 0, .fload 581, .getfield 643, .if_icmp .ge (.ofNat 5), .iconst (.ofNat 0), .istore 3, .jsr (.ofNat 2)]
def b84_2 : List Instr := [.iload 3, .iconst (.ofNat 20), .if_icmp .gt (.ofNat 4), .aload 0, .fload 581, .iload 2, .iload 2, .iload 3, .invokevirtual 108, .aload 0, .invokevirtual 85, .istore 4, .iload 4, .aload 0, .getfield 578, .if_icmp .le (.ofNat 3), .aload 0, .iload 4, .putfield 578, .aload 0, .iload 2, .putfield 576, .aload 0, .iload 3, .putfield 577, .jsr (.ofNat 3)]
def b84_3 : List Instr := [.iinc 3 (.ofNat 1), .goto (.ofNat 2)]
def b84_4 : List Instr := [.aload 0, .fload 581, .iload 2, .iload 2, .aload 1, .iload 2, .iload 2, .invokevirtual 107, .invokevirtual 108, .iinc 2 (.ofNat 1), .goto (.ofNat 1)]
def b84_5 : List Instr := [.return_]
-- X9_findRemark
def b84 : Nat → List Instr := fun t => [b84_0, b84_1, b84_2, b84_3, b84_4, b84_5].getD t []
def q84 : Nat → Nat := fun t => [0, 28, 41, 88, 94, 115].getD t 0
def b85_0 : List Instr := [.iconst (.ofNat 0), .istore 1, .iconst (.ofNat 0), .istore 2, .jsr (.ofNat 1)]
def b85_1 : List Instr := [.iload 2, .aload 0, .fload 581, .getfield 643, .if_icmp .ge (.ofNat 3), .aload 0, .fload 581, .iload 2, .invokevirtual 102, .ifCond .ne (.ofNat 2), .aload 0, .fload 581, .iload 2, .invokevirtual 112, .ifCond .eq (.ofNat 2), .iinc 1 (.ofNat 1), .jsr (.ofNat 2)]
def b85_2 : List Instr := [.iinc 2 (.ofNat 1), .goto (.ofNat 1)]
def b85_3 : List Instr := [.iload 1, .ireturn]
-- X9_whoCan
def b85 : Nat → List Instr := fun t => [b85_0, b85_1, b85_2, b85_3].getD t []
def q85 : Nat → Nat := fun t => [0, 4, 40, 46].getD t 0
def b86_0 : List Instr := [.aload 0, .fload 581, .aload 1, .invokevirtual 97, .iconst (.ofNat 0), .istore 3, .jsr (.ofNat 1)]
def b86_1 : List Instr := [.iload 3, .iconst (.ofNat 60), .if_icmp .gt (.ofNat 3), .aload 0, .fload 581, .iload 3, .putfield 641, .aload 0, .fload 581, .iload 2, .invokevirtual 112, .ifCond .ne (.ofNat 2), .iload 3, .ireturn]
def b86_2 : List Instr := [.iinc 3 (.ofNat 1), .goto (.ofNat 1)]
def b86_3 : List Instr := [.iconst (.negSucc 1), .ireturn]
-- X9_drowningDepth
def b86 : Nat → List Instr := fun t => [b86_0, b86_1, b86_2, b86_3].getD t []
def q86 : Nat → Nat := fun t => [0, 10, 37, 43].getD t 0
def b87_0 : List Instr := [.aload 0, .fload 581, .aload 1, .invokevirtual 97, .iconst (.ofNat 0), .istore 4, .jsr (.ofNat 1)]
def b87_1 : List Instr := [.iload 4, .iconst (.ofNat 20), .if_icmp .gt (.ofNat 3), .aload 0, .fload 581, .iload 2, .iload 2, .iload 4, .invokevirtual 108, .aload 0, .fload 581, .iload 2, .iload 3, .invokevirtual 111, .ifCond .eq (.ofNat 2), .iload 4, .ireturn]
def b87_2 : List Instr := [.iinc 4 (.ofNat 1), .goto (.ofNat 1)]
def b87_3 : List Instr := [.iconst (.negSucc 1), .ireturn]
-- X9_leastSelf
def b87 : Nat → List Instr := fun t => [b87_0, b87_1, b87_2, b87_3].getD t []
def q87 : Nat → Nat := fun t => [0, 11, 44, 50].getD t 0
def b88_0 : List Instr := [.aload 0, .iconst (.negSucc 0), .putfield 576, .aload 0, .iconst (.negSucc 0), .putfield 578, .iconst (.negSucc 0), .istore 4, .jsr (.ofNat 1)]
def b88_1 : List Instr := [.iload 4, .aload 1, .getfield 643, .if_icmp .ge (.ofNat 4), .aload 0, .fload 581, .aload 1, .invokevirtual 97, .iload 4, .iconst (.negSucc 0), .if_icmp .eq (.ofNat 2), .aload 0, .fload 581, .iload 4, .iconst (.ofNat 0), .invokevirtual 106, .jsr (.ofNat 2)]
def b88_2 : List Instr := [.aload 0, .fload 582, .aload 0, .fload 581, .aload 2, .iload 3, .invokevirtual 2, .aload 0, .fload 581, .getfield 645, .invokestatic 276, .istore 5, .iload 5, .aload 0, .getfield 578, .if_icmp .le (.ofNat 3), .aload 0, .iload 5, .putfield 578, .aload 0, .iload 4, .putfield 576, .jsr (.ofNat 3)]
def b88_3 : List Instr := [.iinc 4 (.ofNat 1), .goto (.ofNat 1)]
def b88_4 : List Instr := [.return_]
-- X9_findFreeHand
def b88 : Nat → List Instr := fun t => [b88_0, b88_1, b88_2, b88_3, b88_4].getD t []
def q88 : Nat → Nat := fun t => [0, 13, 46, 92, 98].getD t 0
def b89_0 : List Instr := [.iconst (.ofNat 0), .istore 6, .jsr (.ofNat 1)]
def b89_1 : List Instr := [.iload 6, .iconst (.ofNat 25), .if_icmp .ge (.ofNat 2), .aload 0, .fload 581, .aload 1, .invokevirtual 97, .aload 0, .fload 581, .iload 3, .iload 6, .iconst (.ofNat 5), .idiv, .invokevirtual 106, .aload 0, .fload 581, .iload 4, .iload 6, .iconst (.ofNat 5), .irem, .invokevirtual 106, .aload 0, .fload 582, .aload 0, .fload 581, .aload 2, .iload 5, .invokevirtual 2, .aload 0, .fload 583, .iload 6, .aload 0, .fload 581, .iload 3, .invokevirtual 104, .iastore, .aload 0, .fload 584, .iload 6, .aload 0, .fload 581, .iload 4, .invokevirtual 104, .iastore, .iinc 6 (.ofNat 1), .goto (.ofNat 1)]
def b89_2 : List Instr := [.return_]
-- X9_playFees
def b89 : Nat → List Instr := fun t => [b89_0, b89_1, b89_2].getD t []
def q89 : Nat → Nat := fun t => [0, 3, 94].getD t 0
def b90_0 : List Instr := [.iconst (.ofNat 0), .istore 2, .iconst (.negSucc 0), .istore 3, .iconst (.ofNat 0), .istore 4, .jsr (.ofNat 1)]
def b90_1 : List Instr := [.iload 4, .iconst (.ofNat 25), .if_icmp .ge (.ofNat 5), .aload 0, .iload 4, .iconst (.ofNat 5), .idiv, .iload 4, .iconst (.ofNat 5), .irem, .invokevirtual 91, .ifCond .eq (.ofNat 4), .iinc 2 (.ofNat 1), .iload 3, .iconst (.negSucc 0), .if_icmp .ne (.ofNat 2), .iload 4, .goto (.ofNat 3)]
def b90_2 : List Instr := [.iload 3, .jsr (.ofNat 3)]
def b90_3 : List Instr := [.istore 3, .jsr (.ofNat 4)]
def b90_4 : List Instr := [.iinc 4 (.ofNat 1), .goto (.ofNat 1)]
def b90_5 : List Instr := [.iload 1, .ifCond .ne (.ofNat 6), .iload 2, .ireturn]
def b90_6 : List Instr := [.iload 3, .iconst (.negSucc 0), .if_icmp .ne (.ofNat 7), .iconst (.negSucc 1), .ireturn]
def b90_7 : List Instr := [.iload 1, .iconst (.ofNat 1), .if_icmp .ne (.ofNat 8), .iload 3, .iconst (.ofNat 5), .idiv, .goto (.ofNat 9)]
def b90_8 : List Instr := [.iload 3, .iconst (.ofNat 5), .irem, .jsr (.ofNat 9)]
def b90_9 : List Instr := [.ireturn]
-- X9_restOfGame
def b90 : Nat → List Instr := fun t => [b90_0, b90_1, b90_2, b90_3, b90_4, b90_5, b90_6, b90_7, b90_8, b90_9].getD t []
def q90 : Nat → Nat := fun t => [0, 7, 42, 43, 44, 50, 56, 64, 75, 78].getD t 0
def b91_0 : List Instr := [.iconst (.ofNat 5), .iload 1, .imul, .iload 2, .iadd, .istore 3, .iconst (.ofNat 0), .istore 4, .jsr (.ofNat 1)]
def b91_1 : List Instr := [.iload 4, .iconst (.ofNat 5), .if_icmp .ge (.ofNat 8), .aload 0, .fload 583, .iconst (.ofNat 5), .iload 4, .imul, .iload 2, .iadd, .iaload, .aload 0, .fload 583, .iload 3, .iaload, .if_icmp .le (.ofNat 2), .iconst (.ofNat 1), .goto (.ofNat 3)]
def b91_2 : List Instr := [.iconst (.ofNat 0), .jsr (.ofNat 3)]
def b91_3 : List Instr := [.istore 5, .aload 0, .fload 584, .iconst (.ofNat 5), .iload 1, .imul, .iload 4, .iadd, .iaload, .aload 0, .fload 584, .iload 3, .iaload, .if_icmp .le (.ofNat 4), .iconst (.ofNat 1), .goto (.ofNat 5)]
def b91_4 : List Instr := [.iconst (.ofNat 0), .jsr (.ofNat 5)]
def b91_5 : List Instr := [.istore 6, .iload 5, .ifCond .ne (.ofNat 6), .iload 6, .ifCond .eq (.ofNat 7), .jsr (.ofNat 6)]
def b91_6 : List Instr := [.iconst (.ofNat 0), .ireturn]
def b91_7 : List Instr := [.iinc 4 (.ofNat 1), .goto (.ofNat 1)]
def b91_8 : List Instr := [.iconst (.ofNat 1), .ireturn]
-- X9_isRest
def b91 : Nat → List Instr := fun t => [b91_0, b91_1, b91_2, b91_3, b91_4, b91_5, b91_6, b91_7, b91_8].getD t []
def q91 : Nat → Nat := fun t => [0, 9, 39, 40, 66, 67, 79, 81, 87].getD t 0
def b92_0 : List Instr := [.iconst (.ofNat 9), .istore 5, .jsr (.ofNat 1)]
def b92_1 : List Instr := [.iload 5, .ifCond .lt (.ofNat 3), .aload 0, .fload 581, .aload 1, .invokevirtual 97, .aload 0, .fload 581, .iload 3, .iload 5, .invokevirtual 106, .aload 0, .fload 582, .aload 0, .fload 581, .aload 2, .invokevirtual 1, .pop, .aload 0, .fload 582, .fload 1, .iload 4, .iaload, .iload 3, .if_icmp .ne (.ofNat 2), .iload 5, .ireturn]
def b92_2 : List Instr := [.iinc 5 (.negSucc 0), .goto (.ofNat 1)]
def b92_3 : List Instr := [.iconst (.negSucc 1), .ireturn]
-- X9_greatestFee
def b92 : Nat → List Instr := fun t => [b92_0, b92_1, b92_2, b92_3].getD t []
def q92 : Nat → Nat := fun t => [0, 4, 57, 63].getD t 0
def b93_0 : List Instr := [.aload 0, .iconst (.ofNat 0), .putfield 578, .aload 0, .iconst (.ofNat 0), .putfield 579, .iconst (.ofNat 0), .istore 6, .jsr (.ofNat 1)]
def b93_1 : List Instr := [.iload 6, .iload 3, .if_icmp .ge (.ofNat 2), .aload 0, .fload 581, .aload 1, .invokevirtual 97, .aload 0, .aload 2, .iload 4, .iload 5, .invokevirtual 94, .aload 0, .dup, .getfield 578, .aload 0, .fload 581, .getfield 645, .invokestatic 276, .iadd, .putfield 578, .aload 0, .dup, .getfield 579, .aload 0, .fload 581, .aload 0, .fload 581, .getfield 645, .invokevirtual 116, .iadd, .putfield 579, .iinc 6 (.ofNat 1), .goto (.ofNat 1)]
def b93_2 : List Instr := [.return_]
-- X9_holdFairs
def b93 : Nat → List Instr := fun t => [b93_0, b93_1, b93_2].getD t []
def q93 : Nat → Nat := fun t => [0, 13, 84].getD t 0
def b94_0 : List Instr := [.iconst (.ofNat 0), .istore 4, .iconst (.ofNat 0), .istore 5, .jsr (.ofNat 1)]
def b94_1 : List Instr := [.iload 5, .iload 2, .if_icmp .ge (.ofNat 4), .aload 0, .invokevirtual 95, .iconst (.ofNat 100), .irem, .iload 3, .if_icmp .ge (.ofNat 2), .aload 0, .fload 581, .getfield 643, .ifCond .le (.ofNat 2), .aload 0, .invokevirtual 95, .aload 0, .fload 581, .getfield 643, .irem, .istore 6, .aload 0, .fload 581, .iload 6, .iload 6, .aload 0, .invokevirtual 95, .iconst (.ofNat 21), .irem, .invokevirtual 108, .iconst (.ofNat 0), .istore 4, .jsr (.ofNat 2)]
def b94_2 : List Instr := [.iload 4, .ifCond .ne (.ofNat 3), .aload 0, .fload 582, .aload 0, .fload 582, .aload 0, .fload 581, .aload 1, .invokevirtual 1, .aload 1, .invokevirtual 3, .istore 4, .jsr (.ofNat 3)]
def b94_3 : List Instr := [.iinc 5 (.ofNat 1), .goto (.ofNat 1)]
def b94_4 : List Instr := [.return_]
-- X9_holdFair
def b94 : Nat → List Instr := fun t => [b94_0, b94_1, b94_2, b94_3, b94_4].getD t []
def q94 : Nat → Nat := fun t => [0, 6, 68, 95, 101].getD t 0
def b95_0 : List Instr := [.aload 0, .aload 0, .getfield 580, .i2l, .sipush (.ofNat 1103515245), .lmul, .sipush (.ofNat 12345), .ladd, .sipush (.ofNat 2147483648), .lrem, .l2i, .putfield 580, .aload 0, .getfield 580, .iconst (.ofNat 65536), .idiv, .ireturn]
-- X9_draw
def b95 : Nat → List Instr := fun t => [b95_0].getD t []
def q95 : Nat → Nat := fun t => [0].getD t 0
