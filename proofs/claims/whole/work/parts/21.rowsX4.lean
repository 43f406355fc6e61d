theorem dX4_init_0 : decode cX4_init 0 = .ok (.aload_n 0, 1) := by decide +kernel
theorem dX4_init_1 : decode cX4_init 1 = .ok (.invokespecial 3, 3) := by decide +kernel
theorem dX4_init_4 : decode cX4_init 4 = .ok (.aload_n 0, 1) := by decide +kernel
theorem dX4_init_5 : decode cX4_init 5 = .ok (.bipush 12, 2) := by decide +kernel
theorem dX4_init_7 : decode cX4_init 7 = .ok (.newarray .int, 2) := by decide +kernel
theorem dX4_init_9 : decode cX4_init 9 = .ok (.putfield 9, 3) := by decide +kernel
theorem dX4_init_12 : decode cX4_init 12 = .ok (.aload_n 0, 1) := by decide +kernel
theorem dX4_init_13 : decode cX4_init 13 = .ok (.bipush 12, 2) := by decide +kernel
theorem dX4_init_15 : decode cX4_init 15 = .ok (.newarray .int, 2) := by decide +kernel
theorem dX4_init_17 : decode cX4_init 17 = .ok (.putfield 13, 3) := by decide +kernel
theorem dX4_init_20 : decode cX4_init 20 = .ok (.aload_n 0, 1) := by decide +kernel
theorem dX4_init_21 : decode cX4_init 21 = .ok (.bipush 9, 2) := by decide +kernel
theorem dX4_init_23 : decode cX4_init 23 = .ok (.putfield 16, 3) := by decide +kernel
theorem dX4_init_26 : decode cX4_init 26 = .ok (.aload_n 0, 1) := by decide +kernel
theorem dX4_init_27 : decode cX4_init 27 = .ok (.bipush 7, 2) := by decide +kernel
theorem dX4_init_29 : decode cX4_init 29 = .ok (.newarray .int, 2) := by decide +kernel
theorem dX4_init_31 : decode cX4_init 31 = .ok (.putfield 20, 3) := by decide +kernel
theorem dX4_init_34 : decode cX4_init 34 = .ok (.aload_n 0, 1) := by decide +kernel
theorem dX4_init_35 : decode cX4_init 35 = .ok (.sipush 28672, 3) := by decide +kernel
theorem dX4_init_38 : decode cX4_init 38 = .ok (.newarray .int, 2) := by decide +kernel
theorem dX4_init_40 : decode cX4_init 40 = .ok (.putfield 23, 3) := by decide +kernel
theorem dX4_init_43 : decode cX4_init 43 = .ok (.aload_n 0, 1) := by decide +kernel
theorem dX4_init_44 : decode cX4_init 44 = .ok (.bipush 12, 2) := by decide +kernel
theorem dX4_init_46 : decode cX4_init 46 = .ok (.newarray .int, 2) := by decide +kernel
theorem dX4_init_48 : decode cX4_init 48 = .ok (.putfield 26, 3) := by decide +kernel
theorem dX4_init_51 : decode cX4_init 51 = .ok (.aload_n 0, 1) := by decide +kernel
theorem dX4_init_52 : decode cX4_init 52 = .ok (.bipush 12, 2) := by decide +kernel
theorem dX4_init_54 : decode cX4_init 54 = .ok (.newarray .int, 2) := by decide +kernel
theorem dX4_init_56 : decode cX4_init 56 = .ok (.putfield 29, 3) := by decide +kernel
theorem dX4_init_59 : decode cX4_init 59 = .ok (.aload_n 0, 1) := by decide +kernel
theorem dX4_init_60 : decode cX4_init 60 = .ok (.sipush 4096, 3) := by decide +kernel
theorem dX4_init_63 : decode cX4_init 63 = .ok (.newarray .boolean, 2) := by decide +kernel
theorem dX4_init_65 : decode cX4_init 65 = .ok (.putfield 32, 3) := by decide +kernel
theorem dX4_init_68 : decode cX4_init 68 = .ok (.aload_n 0, 1) := by decide +kernel
theorem dX4_init_69 : decode cX4_init 69 = .ok (.sipush 4096, 3) := by decide +kernel
theorem dX4_init_72 : decode cX4_init 72 = .ok (.newarray .boolean, 2) := by decide +kernel
theorem dX4_init_74 : decode cX4_init 74 = .ok (.putfield 36, 3) := by decide +kernel
theorem dX4_init_77 : decode cX4_init 77 = .ok (.aload_n 0, 1) := by decide +kernel
theorem dX4_init_78 : decode cX4_init 78 = .ok (.ldc 39, 2) := by decide +kernel
theorem dX4_init_80 : decode cX4_init 80 = .ok (.newarray .byte, 2) := by decide +kernel
theorem dX4_init_82 : decode cX4_init 82 = .ok (.putfield 40, 3) := by decide +kernel
theorem dX4_init_85 : decode cX4_init 85 = .ok (.return_, 1) := by decide +kernel
theorem dX4_thrown_0 : decode cX4_thrown 0 = .ok (.aload_n 0, 1) := by decide +kernel
theorem dX4_thrown_1 : decode cX4_thrown 1 = .ok (.getfield 44, 3) := by decide +kernel
theorem dX4_thrown_4 : decode cX4_thrown 4 = .ok (.ireturn, 1) := by decide +kernel
theorem dX4_fail_0 : decode cX4_fail 0 = .ok (.aload_n 0, 1) := by decide +kernel
theorem dX4_fail_1 : decode cX4_fail 1 = .ok (.iload_n 1, 1) := by decide +kernel
theorem dX4_fail_2 : decode cX4_fail 2 = .ok (.putfield 44, 3) := by decide +kernel
theorem dX4_fail_5 : decode cX4_fail 5 = .ok (.iconst 0, 1) := by decide +kernel
theorem dX4_fail_6 : decode cX4_fail 6 = .ok (.ireturn, 1) := by decide +kernel
theorem dX4_isArgument_0 : decode cX4_isArgument 0 = .ok (.iload_n 1, 1) := by decide +kernel
theorem dX4_isArgument_1 : decode cX4_isArgument 1 = .ok (.ifCond .lt 15, 3) := by decide +kernel
theorem dX4_isArgument_4 : decode cX4_isArgument 4 = .ok (.iload_n 1, 1) := by decide +kernel
theorem dX4_isArgument_5 : decode cX4_isArgument 5 = .ok (.aload_n 0, 1) := by decide +kernel
theorem dX4_isArgument_6 : decode cX4_isArgument 6 = .ok (.getfield 47, 3) := by decide +kernel
theorem dX4_isArgument_9 : decode cX4_isArgument 9 = .ok (.if_icmp .ge 7, 3) := by decide +kernel
theorem dX4_isArgument_12 : decode cX4_isArgument 12 = .ok (.iconst 1, 1) := by decide +kernel
theorem dX4_isArgument_13 : decode cX4_isArgument 13 = .ok (.goto 4, 3) := by decide +kernel
theorem dX4_isArgument_16 : decode cX4_isArgument 16 = .ok (.iconst 0, 1) := by decide +kernel
theorem dX4_isArgument_17 : decode cX4_isArgument 17 = .ok (.ireturn, 1) := by decide +kernel
theorem dX4_isSet_0 : decode cX4_isSet 0 = .ok (.iload_n 1, 1) := by decide +kernel
theorem dX4_isSet_1 : decode cX4_isSet 1 = .ok (.ifCond .lt 17, 3) := by decide +kernel
theorem dX4_isSet_4 : decode cX4_isSet 4 = .ok (.iload_n 1, 1) := by decide +kernel
theorem dX4_isSet_5 : decode cX4_isSet 5 = .ok (.iconst 1, 1) := by decide +kernel
theorem dX4_isSet_6 : decode cX4_isSet 6 = .ok (.aload_n 0, 1) := by decide +kernel
theorem dX4_isSet_7 : decode cX4_isSet 7 = .ok (.getfield 47, 3) := by decide +kernel
theorem dX4_isSet_10 : decode cX4_isSet 10 = .ok (.ishl, 1) := by decide +kernel
theorem dX4_isSet_11 : decode cX4_isSet 11 = .ok (.if_icmp .ge 7, 3) := by decide +kernel
theorem dX4_isSet_14 : decode cX4_isSet 14 = .ok (.iconst 1, 1) := by decide +kernel
theorem dX4_isSet_15 : decode cX4_isSet 15 = .ok (.goto 4, 3) := by decide +kernel
theorem dX4_isSet_18 : decode cX4_isSet 18 = .ok (.iconst 0, 1) := by decide +kernel
theorem dX4_isSet_19 : decode cX4_isSet 19 = .ok (.ireturn, 1) := by decide +kernel
theorem dX4_isWeight_0 : decode cX4_isWeight 0 = .ok (.iload_n 0, 1) := by decide +kernel
theorem dX4_isWeight_1 : decode cX4_isWeight 1 = .ok (.iconst 1, 1) := by decide +kernel
theorem dX4_isWeight_2 : decode cX4_isWeight 2 = .ok (.if_icmp .lt 13, 3) := by decide +kernel
theorem dX4_isWeight_5 : decode cX4_isWeight 5 = .ok (.iload_n 0, 1) := by decide +kernel
theorem dX4_isWeight_6 : decode cX4_isWeight 6 = .ok (.bipush 9, 2) := by decide +kernel
theorem dX4_isWeight_8 : decode cX4_isWeight 8 = .ok (.if_icmp .gt 7, 3) := by decide +kernel
theorem dX4_isWeight_11 : decode cX4_isWeight 11 = .ok (.iconst 1, 1) := by decide +kernel
theorem dX4_isWeight_12 : decode cX4_isWeight 12 = .ok (.goto 4, 3) := by decide +kernel
theorem dX4_isWeight_15 : decode cX4_isWeight 15 = .ok (.iconst 0, 1) := by decide +kernel
theorem dX4_isWeight_16 : decode cX4_isWeight 16 = .ok (.ireturn, 1) := by decide +kernel
theorem dX4_has_0 : decode cX4_has 0 = .ok (.iload_n 0, 1) := by decide +kernel
theorem dX4_has_1 : decode cX4_has 1 = .ok (.iload_n 1, 1) := by decide +kernel
theorem dX4_has_2 : decode cX4_has 2 = .ok (.ishr, 1) := by decide +kernel
theorem dX4_has_3 : decode cX4_has 3 = .ok (.iconst 1, 1) := by decide +kernel
theorem dX4_has_4 : decode cX4_has 4 = .ok (.iand, 1) := by decide +kernel
theorem dX4_has_5 : decode cX4_has 5 = .ok (.iconst 1, 1) := by decide +kernel
theorem dX4_has_6 : decode cX4_has 6 = .ok (.if_icmp .ne 7, 3) := by decide +kernel
theorem dX4_has_9 : decode cX4_has 9 = .ok (.iconst 1, 1) := by decide +kernel
theorem dX4_has_10 : decode cX4_has 10 = .ok (.goto 4, 3) := by decide +kernel
theorem dX4_has_13 : decode cX4_has 13 = .ok (.iconst 0, 1) := by decide +kernel
theorem dX4_has_14 : decode cX4_has 14 = .ok (.ireturn, 1) := by decide +kernel
theorem dX4_change_0 : decode cX4_change 0 = .ok (.aload_n 0, 1) := by decide +kernel
theorem dX4_change_1 : decode cX4_change 1 = .ok (.iconst 0, 1) := by decide +kernel
theorem dX4_change_2 : decode cX4_change 2 = .ok (.putfield 50, 3) := by decide +kernel
theorem dX4_change_5 : decode cX4_change 5 = .ok (.return_, 1) := by decide +kernel
set_option maxRecDepth 20000 in
theorem ggX4_addArgument_X4_isWeight : GoodIn wsX4_addArgument wsX4_isWeight := goodIn_r _ [8] (by decide +kernel) (by decide +kernel)
set_option maxRecDepth 20000 in
theorem gX4_addArgument_X4_isWeight : GoodIn wsX4_addArgument (va_wsS RX4 54 yX4_isWeight wsX4_isWeight) := goodIn_app (goodIn_of _ (by decide +kernel)) ggX4_addArgument_X4_isWeight
set_option maxRecDepth 20000 in
theorem ggX4_addArgument_X4_fail : GoodIn wsX4_addArgument wsX4_fail := goodIn_r _ [12, 1, 18, 19, 20, 21, 22, 23, 24, 25, 26, 27, 28, 29, 30, 31] (by decide +kernel) (by decide +kernel)
set_option maxRecDepth 20000 in
theorem gX4_addArgument_X4_fail : GoodIn wsX4_addArgument (wsV RX4 58 RX4 yX4_fail wsX4_fail) := goodIn_app (goodIn_of _ (by decide +kernel)) ggX4_addArgument_X4_fail
set_option maxRecDepth 20000 in
theorem ggX4_addArgument_X4_change : GoodIn wsX4_addArgument wsX4_change := goodIn_r _ [16, 17, 18, 19, 20, 21, 22, 23, 24, 25, 26, 27, 28, 29, 30, 31] (by decide +kernel) (by decide +kernel)
set_option maxRecDepth 20000 in
theorem gX4_addArgument_X4_change : GoodIn wsX4_addArgument (wsV RX4 65 RX4 yX4_change wsX4_change) := goodIn_app (goodIn_of _ (by decide +kernel)) ggX4_addArgument_X4_change
theorem dX4_addArgument_0 : decode cX4_addArgument 0 = .ok (.aload_n 0, 1) := by decide +kernel
theorem dX4_addArgument_1 : decode cX4_addArgument 1 = .ok (.iconst 0, 1) := by decide +kernel
theorem dX4_addArgument_2 : decode cX4_addArgument 2 = .ok (.putfield 44, 3) := by decide +kernel
theorem dX4_addArgument_5 : decode cX4_addArgument 5 = .ok (.iload_n 1, 1) := by decide +kernel
theorem dX4_addArgument_6 : decode cX4_addArgument 6 = .ok (.invokestatic 54, 3) := by decide +kernel
theorem dX4_addArgument_9 : decode cX4_addArgument 9 = .ok (.ifCond .ne 9, 3) := by decide +kernel
theorem dX4_addArgument_12 : decode cX4_addArgument 12 = .ok (.aload_n 0, 1) := by decide +kernel
theorem dX4_addArgument_13 : decode cX4_addArgument 13 = .ok (.iconst 1, 1) := by decide +kernel
theorem dX4_addArgument_14 : decode cX4_addArgument 14 = .ok (.invokevirtual 58, 3) := by decide +kernel
theorem dX4_addArgument_17 : decode cX4_addArgument 17 = .ok (.ireturn, 1) := by decide +kernel
theorem dX4_addArgument_18 : decode cX4_addArgument 18 = .ok (.aload_n 0, 1) := by decide +kernel
theorem dX4_addArgument_19 : decode cX4_addArgument 19 = .ok (.getfield 47, 3) := by decide +kernel
theorem dX4_addArgument_22 : decode cX4_addArgument 22 = .ok (.bipush 12, 2) := by decide +kernel
theorem dX4_addArgument_24 : decode cX4_addArgument 24 = .ok (.if_icmp .ne 9, 3) := by decide +kernel
theorem dX4_addArgument_27 : decode cX4_addArgument 27 = .ok (.aload_n 0, 1) := by decide +kernel
theorem dX4_addArgument_28 : decode cX4_addArgument 28 = .ok (.iconst 2, 1) := by decide +kernel
theorem dX4_addArgument_29 : decode cX4_addArgument 29 = .ok (.invokevirtual 58, 3) := by decide +kernel
theorem dX4_addArgument_32 : decode cX4_addArgument 32 = .ok (.ireturn, 1) := by decide +kernel
theorem dX4_addArgument_33 : decode cX4_addArgument 33 = .ok (.aload_n 0, 1) := by decide +kernel
theorem dX4_addArgument_34 : decode cX4_addArgument 34 = .ok (.getfield 9, 3) := by decide +kernel
theorem dX4_addArgument_37 : decode cX4_addArgument 37 = .ok (.aload_n 0, 1) := by decide +kernel
theorem dX4_addArgument_38 : decode cX4_addArgument 38 = .ok (.getfield 47, 3) := by decide +kernel
theorem dX4_addArgument_41 : decode cX4_addArgument 41 = .ok (.iload_n 1, 1) := by decide +kernel
theorem dX4_addArgument_42 : decode cX4_addArgument 42 = .ok (.iastore, 1) := by decide +kernel
theorem dX4_addArgument_43 : decode cX4_addArgument 43 = .ok (.aload_n 0, 1) := by decide +kernel
theorem dX4_addArgument_44 : decode cX4_addArgument 44 = .ok (.dup, 1) := by decide +kernel
theorem dX4_addArgument_45 : decode cX4_addArgument 45 = .ok (.getfield 62, 3) := by decide +kernel
theorem dX4_addArgument_48 : decode cX4_addArgument 48 = .ok (.iconst 1, 1) := by decide +kernel
theorem dX4_addArgument_49 : decode cX4_addArgument 49 = .ok (.aload_n 0, 1) := by decide +kernel
theorem dX4_addArgument_50 : decode cX4_addArgument 50 = .ok (.getfield 47, 3) := by decide +kernel
theorem dX4_addArgument_53 : decode cX4_addArgument 53 = .ok (.ishl, 1) := by decide +kernel
theorem dX4_addArgument_54 : decode cX4_addArgument 54 = .ok (.ior, 1) := by decide +kernel
theorem dX4_addArgument_55 : decode cX4_addArgument 55 = .ok (.putfield 62, 3) := by decide +kernel
theorem dX4_addArgument_58 : decode cX4_addArgument 58 = .ok (.aload_n 0, 1) := by decide +kernel
theorem dX4_addArgument_59 : decode cX4_addArgument 59 = .ok (.dup, 1) := by decide +kernel
theorem dX4_addArgument_60 : decode cX4_addArgument 60 = .ok (.getfield 47, 3) := by decide +kernel
theorem dX4_addArgument_63 : decode cX4_addArgument 63 = .ok (.iconst 1, 1) := by decide +kernel
theorem dX4_addArgument_64 : decode cX4_addArgument 64 = .ok (.iadd, 1) := by decide +kernel
theorem dX4_addArgument_65 : decode cX4_addArgument 65 = .ok (.putfield 47, 3) := by decide +kernel
theorem dX4_addArgument_68 : decode cX4_addArgument 68 = .ok (.aload_n 0, 1) := by decide +kernel
theorem dX4_addArgument_69 : decode cX4_addArgument 69 = .ok (.invokevirtual 65, 3) := by decide +kernel
theorem dX4_addArgument_72 : decode cX4_addArgument 72 = .ok (.aload_n 0, 1) := by decide +kernel
theorem dX4_addArgument_73 : decode cX4_addArgument 73 = .ok (.getfield 47, 3) := by decide +kernel
theorem dX4_addArgument_76 : decode cX4_addArgument 76 = .ok (.iconst 1, 1) := by decide +kernel
theorem dX4_addArgument_77 : decode cX4_addArgument 77 = .ok (.isub, 1) := by decide +kernel
theorem dX4_addArgument_78 : decode cX4_addArgument 78 = .ok (.ireturn, 1) := by decide +kernel
set_option maxRecDepth 20000 in
theorem ggX4_setWeight_X4_isArgument : GoodIn wsX4_setWeight wsX4_isArgument := goodIn_r _ [7, 8, 21, 22, 23, 24, 25, 26, 27, 28, 29, 30, 31, 32, 33, 34] (by decide +kernel) (by decide +kernel)
set_option maxRecDepth 20000 in
theorem gX4_setWeight_X4_isArgument : GoodIn wsX4_setWeight (wsV RX4 68 RX4 yX4_isArgument wsX4_isArgument) := goodIn_app (goodIn_of _ (by decide +kernel)) ggX4_setWeight_X4_isArgument
set_option maxRecDepth 20000 in
theorem ggX4_setWeight_X4_fail : GoodIn wsX4_setWeight wsX4_fail := goodIn_r _ [12, 1, 21, 22, 23, 24, 25, 26, 27, 28, 29, 30, 31, 32, 33, 34] (by decide +kernel) (by decide +kernel)
set_option maxRecDepth 20000 in
theorem gX4_setWeight_X4_fail : GoodIn wsX4_setWeight (wsV RX4 58 RX4 yX4_fail wsX4_fail) := goodIn_app (goodIn_of _ (by decide +kernel)) ggX4_setWeight_X4_fail
set_option maxRecDepth 20000 in
theorem ggX4_setWeight_X4_isWeight : GoodIn wsX4_setWeight wsX4_isWeight := goodIn_r _ [15] (by decide +kernel) (by decide +kernel)
set_option maxRecDepth 20000 in
theorem gX4_setWeight_X4_isWeight : GoodIn wsX4_setWeight (va_wsS RX4 54 yX4_isWeight wsX4_isWeight) := goodIn_app (goodIn_of _ (by decide +kernel)) ggX4_setWeight_X4_isWeight
set_option maxRecDepth 20000 in
theorem ggX4_setWeight_X4_change : GoodIn wsX4_setWeight wsX4_change := goodIn_r _ [19, 20, 21, 22, 23, 24, 25, 26, 27, 28, 29, 30, 31, 32, 33, 34] (by decide +kernel) (by decide +kernel)
set_option maxRecDepth 20000 in
theorem gX4_setWeight_X4_change : GoodIn wsX4_setWeight (wsV RX4 65 RX4 yX4_change wsX4_change) := goodIn_app (goodIn_of _ (by decide +kernel)) ggX4_setWeight_X4_change
theorem dX4_setWeight_0 : decode cX4_setWeight 0 = .ok (.aload_n 0, 1) := by decide +kernel
theorem dX4_setWeight_1 : decode cX4_setWeight 1 = .ok (.iconst 0, 1) := by decide +kernel
theorem dX4_setWeight_2 : decode cX4_setWeight 2 = .ok (.putfield 44, 3) := by decide +kernel
theorem dX4_setWeight_5 : decode cX4_setWeight 5 = .ok (.aload_n 0, 1) := by decide +kernel
theorem dX4_setWeight_6 : decode cX4_setWeight 6 = .ok (.iload_n 1, 1) := by decide +kernel
theorem dX4_setWeight_7 : decode cX4_setWeight 7 = .ok (.invokevirtual 68, 3) := by decide +kernel
theorem dX4_setWeight_10 : decode cX4_setWeight 10 = .ok (.ifCond .ne 9, 3) := by decide +kernel
theorem dX4_setWeight_13 : decode cX4_setWeight 13 = .ok (.aload_n 0, 1) := by decide +kernel
theorem dX4_setWeight_14 : decode cX4_setWeight 14 = .ok (.iconst 1, 1) := by decide +kernel
theorem dX4_setWeight_15 : decode cX4_setWeight 15 = .ok (.invokevirtual 58, 3) := by decide +kernel
theorem dX4_setWeight_18 : decode cX4_setWeight 18 = .ok (.ireturn, 1) := by decide +kernel
theorem dX4_setWeight_19 : decode cX4_setWeight 19 = .ok (.iload_n 2, 1) := by decide +kernel
theorem dX4_setWeight_20 : decode cX4_setWeight 20 = .ok (.invokestatic 54, 3) := by decide +kernel
theorem dX4_setWeight_23 : decode cX4_setWeight 23 = .ok (.ifCond .ne 9, 3) := by decide +kernel
theorem dX4_setWeight_26 : decode cX4_setWeight 26 = .ok (.aload_n 0, 1) := by decide +kernel
theorem dX4_setWeight_27 : decode cX4_setWeight 27 = .ok (.iconst 2, 1) := by decide +kernel
theorem dX4_setWeight_28 : decode cX4_setWeight 28 = .ok (.invokevirtual 58, 3) := by decide +kernel
theorem dX4_setWeight_31 : decode cX4_setWeight 31 = .ok (.ireturn, 1) := by decide +kernel
theorem dX4_setWeight_32 : decode cX4_setWeight 32 = .ok (.aload_n 0, 1) := by decide +kernel
theorem dX4_setWeight_33 : decode cX4_setWeight 33 = .ok (.getfield 9, 3) := by decide +kernel
theorem dX4_setWeight_36 : decode cX4_setWeight 36 = .ok (.iload_n 1, 1) := by decide +kernel
theorem dX4_setWeight_37 : decode cX4_setWeight 37 = .ok (.iaload, 1) := by decide +kernel
theorem dX4_setWeight_38 : decode cX4_setWeight 38 = .ok (.istore_n 3, 1) := by decide +kernel
theorem dX4_setWeight_39 : decode cX4_setWeight 39 = .ok (.aload_n 0, 1) := by decide +kernel
theorem dX4_setWeight_40 : decode cX4_setWeight 40 = .ok (.getfield 9, 3) := by decide +kernel
theorem dX4_setWeight_43 : decode cX4_setWeight 43 = .ok (.iload_n 1, 1) := by decide +kernel
theorem dX4_setWeight_44 : decode cX4_setWeight 44 = .ok (.iload_n 2, 1) := by decide +kernel
theorem dX4_setWeight_45 : decode cX4_setWeight 45 = .ok (.iastore, 1) := by decide +kernel
theorem dX4_setWeight_46 : decode cX4_setWeight 46 = .ok (.aload_n 0, 1) := by decide +kernel
theorem dX4_setWeight_47 : decode cX4_setWeight 47 = .ok (.invokevirtual 65, 3) := by decide +kernel
theorem dX4_setWeight_50 : decode cX4_setWeight 50 = .ok (.iload_n 3, 1) := by decide +kernel
theorem dX4_setWeight_51 : decode cX4_setWeight 51 = .ok (.ireturn, 1) := by decide +kernel
set_option maxRecDepth 20000 in
theorem ggX4_put_X4_isArgument : GoodIn wsX4_put wsX4_isArgument := goodIn_r _ [7, 8, 17, 18, 19, 20, 21, 22, 23, 24, 25, 26, 27, 28, 29, 30] (by decide +kernel) (by decide +kernel)
set_option maxRecDepth 20000 in
theorem gX4_put_X4_isArgument : GoodIn wsX4_put (wsV RX4 68 RX4 yX4_isArgument wsX4_isArgument) := goodIn_app (goodIn_of _ (by decide +kernel)) ggX4_put_X4_isArgument
set_option maxRecDepth 20000 in
theorem ggX4_put_X4_has : GoodIn wsX4_put wsX4_has := goodIn_r _ [11] (by decide +kernel) (by decide +kernel)
set_option maxRecDepth 20000 in
theorem gX4_put_X4_has : GoodIn wsX4_put (va_wsS RX4 71 yX4_has wsX4_has) := goodIn_app (goodIn_of _ (by decide +kernel)) ggX4_put_X4_has
set_option maxRecDepth 20000 in
theorem ggX4_put_X4_change : GoodIn wsX4_put wsX4_change := goodIn_r _ [15, 16, 17, 18, 19, 20, 21, 22, 23, 24, 25, 26, 27, 28, 29, 30] (by decide +kernel) (by decide +kernel)
set_option maxRecDepth 20000 in
theorem gX4_put_X4_change : GoodIn wsX4_put (wsV RX4 65 RX4 yX4_change wsX4_change) := goodIn_app (goodIn_of _ (by decide +kernel)) ggX4_put_X4_change
theorem dX4_put_0 : decode cX4_put 0 = .ok (.aload_n 0, 1) := by decide +kernel
theorem dX4_put_1 : decode cX4_put 1 = .ok (.aload_n 0, 1) := by decide +kernel
theorem dX4_put_2 : decode cX4_put 2 = .ok (.iload_n 1, 1) := by decide +kernel
theorem dX4_put_3 : decode cX4_put 3 = .ok (.invokevirtual 68, 3) := by decide +kernel
theorem dX4_put_6 : decode cX4_put 6 = .ok (.ifCond .eq 7, 3) := by decide +kernel
theorem dX4_put_9 : decode cX4_put 9 = .ok (.iconst 0, 1) := by decide +kernel
theorem dX4_put_10 : decode cX4_put 10 = .ok (.goto 4, 3) := by decide +kernel
theorem dX4_put_13 : decode cX4_put 13 = .ok (.iconst 1, 1) := by decide +kernel
theorem dX4_put_14 : decode cX4_put 14 = .ok (.putfield 44, 3) := by decide +kernel
theorem dX4_put_17 : decode cX4_put 17 = .ok (.aload_n 0, 1) := by decide +kernel
theorem dX4_put_18 : decode cX4_put 18 = .ok (.getfield 44, 3) := by decide +kernel
theorem dX4_put_21 : decode cX4_put 21 = .ok (.ifCond .eq 5, 3) := by decide +kernel
theorem dX4_put_24 : decode cX4_put 24 = .ok (.iconst 0, 1) := by decide +kernel
theorem dX4_put_25 : decode cX4_put 25 = .ok (.ireturn, 1) := by decide +kernel
theorem dX4_put_26 : decode cX4_put 26 = .ok (.aload_n 0, 1) := by decide +kernel
theorem dX4_put_27 : decode cX4_put 27 = .ok (.getfield 62, 3) := by decide +kernel
theorem dX4_put_30 : decode cX4_put 30 = .ok (.iload_n 1, 1) := by decide +kernel
theorem dX4_put_31 : decode cX4_put 31 = .ok (.invokestatic 71, 3) := by decide +kernel
theorem dX4_put_34 : decode cX4_put 34 = .ok (.istore_n 3, 1) := by decide +kernel
theorem dX4_put_35 : decode cX4_put 35 = .ok (.aload_n 0, 1) := by decide +kernel
theorem dX4_put_36 : decode cX4_put 36 = .ok (.iload_n 2, 1) := by decide +kernel
theorem dX4_put_37 : decode cX4_put 37 = .ok (.ifCond .eq 14, 3) := by decide +kernel
theorem dX4_put_40 : decode cX4_put 40 = .ok (.aload_n 0, 1) := by decide +kernel
theorem dX4_put_41 : decode cX4_put 41 = .ok (.getfield 62, 3) := by decide +kernel
theorem dX4_put_44 : decode cX4_put 44 = .ok (.iconst 1, 1) := by decide +kernel
theorem dX4_put_45 : decode cX4_put 45 = .ok (.iload_n 1, 1) := by decide +kernel
theorem dX4_put_46 : decode cX4_put 46 = .ok (.ishl, 1) := by decide +kernel
theorem dX4_put_47 : decode cX4_put 47 = .ok (.ior, 1) := by decide +kernel
theorem dX4_put_48 : decode cX4_put 48 = .ok (.goto 13, 3) := by decide +kernel
theorem dX4_put_51 : decode cX4_put 51 = .ok (.aload_n 0, 1) := by decide +kernel
theorem dX4_put_52 : decode cX4_put 52 = .ok (.getfield 62, 3) := by decide +kernel
theorem dX4_put_55 : decode cX4_put 55 = .ok (.iconst 1, 1) := by decide +kernel
theorem dX4_put_56 : decode cX4_put 56 = .ok (.iload_n 1, 1) := by decide +kernel
theorem dX4_put_57 : decode cX4_put 57 = .ok (.ishl, 1) := by decide +kernel
theorem dX4_put_58 : decode cX4_put 58 = .ok (.iconst (-1), 1) := by decide +kernel
theorem dX4_put_59 : decode cX4_put 59 = .ok (.ixor, 1) := by decide +kernel
theorem dX4_put_60 : decode cX4_put 60 = .ok (.iand, 1) := by decide +kernel
theorem dX4_put_61 : decode cX4_put 61 = .ok (.putfield 62, 3) := by decide +kernel
theorem dX4_put_64 : decode cX4_put 64 = .ok (.aload_n 0, 1) := by decide +kernel
theorem dX4_put_65 : decode cX4_put 65 = .ok (.invokevirtual 65, 3) := by decide +kernel
theorem dX4_put_68 : decode cX4_put 68 = .ok (.iload_n 3, 1) := by decide +kernel
theorem dX4_put_69 : decode cX4_put 69 = .ok (.ireturn, 1) := by decide +kernel
set_option maxRecDepth 20000 in
theorem ggX4_attack_X4_isArgument : GoodIn wsX4_attack wsX4_isArgument := goodIn_r _ [7, 8, 17, 18, 19, 20, 21, 22, 23, 24, 25, 26, 27, 28, 29, 30] (by decide +kernel) (by decide +kernel)
set_option maxRecDepth 20000 in
theorem gX4_attack_X4_isArgument : GoodIn wsX4_attack (wsV RX4 68 RX4 yX4_isArgument wsX4_isArgument) := goodIn_app (goodIn_of _ (by decide +kernel)) ggX4_attack_X4_isArgument
set_option maxRecDepth 20000 in
theorem ggX4_attack_X4_has : GoodIn wsX4_attack wsX4_has := goodIn_r _ [11] (by decide +kernel) (by decide +kernel)
set_option maxRecDepth 20000 in
theorem gX4_attack_X4_has : GoodIn wsX4_attack (va_wsS RX4 71 yX4_has wsX4_has) := goodIn_app (goodIn_of _ (by decide +kernel)) ggX4_attack_X4_has
set_option maxRecDepth 20000 in
theorem ggX4_attack_X4_change : GoodIn wsX4_attack wsX4_change := goodIn_r _ [15, 16, 17, 18, 19, 20, 21, 22, 23, 24, 25, 26, 27, 28, 29, 30] (by decide +kernel) (by decide +kernel)
set_option maxRecDepth 20000 in
theorem gX4_attack_X4_change : GoodIn wsX4_attack (wsV RX4 65 RX4 yX4_change wsX4_change) := goodIn_app (goodIn_of _ (by decide +kernel)) ggX4_attack_X4_change
theorem dX4_attack_0 : decode cX4_attack 0 = .ok (.aload_n 0, 1) := by decide +kernel
theorem dX4_attack_1 : decode cX4_attack 1 = .ok (.aload_n 0, 1) := by decide +kernel
theorem dX4_attack_2 : decode cX4_attack 2 = .ok (.iload_n 1, 1) := by decide +kernel
theorem dX4_attack_3 : decode cX4_attack 3 = .ok (.invokevirtual 68, 3) := by decide +kernel
theorem dX4_attack_6 : decode cX4_attack 6 = .ok (.ifCond .eq 15, 3) := by decide +kernel
theorem dX4_attack_9 : decode cX4_attack 9 = .ok (.aload_n 0, 1) := by decide +kernel
theorem dX4_attack_10 : decode cX4_attack 10 = .ok (.iload_n 2, 1) := by decide +kernel
theorem dX4_attack_11 : decode cX4_attack 11 = .ok (.invokevirtual 68, 3) := by decide +kernel
theorem dX4_attack_14 : decode cX4_attack 14 = .ok (.ifCond .eq 7, 3) := by decide +kernel
theorem dX4_attack_17 : decode cX4_attack 17 = .ok (.iconst 0, 1) := by decide +kernel
theorem dX4_attack_18 : decode cX4_attack 18 = .ok (.goto 4, 3) := by decide +kernel
theorem dX4_attack_21 : decode cX4_attack 21 = .ok (.iconst 1, 1) := by decide +kernel
theorem dX4_attack_22 : decode cX4_attack 22 = .ok (.putfield 44, 3) := by decide +kernel
theorem dX4_attack_25 : decode cX4_attack 25 = .ok (.aload_n 0, 1) := by decide +kernel
theorem dX4_attack_26 : decode cX4_attack 26 = .ok (.getfield 44, 3) := by decide +kernel
theorem dX4_attack_29 : decode cX4_attack 29 = .ok (.ifCond .eq 5, 3) := by decide +kernel
theorem dX4_attack_32 : decode cX4_attack 32 = .ok (.iconst 0, 1) := by decide +kernel
theorem dX4_attack_33 : decode cX4_attack 33 = .ok (.ireturn, 1) := by decide +kernel
theorem dX4_attack_34 : decode cX4_attack 34 = .ok (.aload_n 0, 1) := by decide +kernel
theorem dX4_attack_35 : decode cX4_attack 35 = .ok (.getfield 13, 3) := by decide +kernel
theorem dX4_attack_38 : decode cX4_attack 38 = .ok (.iload_n 1, 1) := by decide +kernel
theorem dX4_attack_39 : decode cX4_attack 39 = .ok (.iaload, 1) := by decide +kernel
theorem dX4_attack_40 : decode cX4_attack 40 = .ok (.iload_n 2, 1) := by decide +kernel
theorem dX4_attack_41 : decode cX4_attack 41 = .ok (.invokestatic 71, 3) := by decide +kernel
theorem dX4_attack_44 : decode cX4_attack 44 = .ok (.istore 4, 2) := by decide +kernel
theorem dX4_attack_46 : decode cX4_attack 46 = .ok (.aload_n 0, 1) := by decide +kernel
theorem dX4_attack_47 : decode cX4_attack 47 = .ok (.getfield 13, 3) := by decide +kernel
theorem dX4_attack_50 : decode cX4_attack 50 = .ok (.iload_n 1, 1) := by decide +kernel
theorem dX4_attack_51 : decode cX4_attack 51 = .ok (.iload_n 3, 1) := by decide +kernel
theorem dX4_attack_52 : decode cX4_attack 52 = .ok (.ifCond .eq 16, 3) := by decide +kernel
theorem dX4_attack_55 : decode cX4_attack 55 = .ok (.aload_n 0, 1) := by decide +kernel
theorem dX4_attack_56 : decode cX4_attack 56 = .ok (.getfield 13, 3) := by decide +kernel
theorem dX4_attack_59 : decode cX4_attack 59 = .ok (.iload_n 1, 1) := by decide +kernel
theorem dX4_attack_60 : decode cX4_attack 60 = .ok (.iaload, 1) := by decide +kernel
theorem dX4_attack_61 : decode cX4_attack 61 = .ok (.iconst 1, 1) := by decide +kernel
theorem dX4_attack_62 : decode cX4_attack 62 = .ok (.iload_n 2, 1) := by decide +kernel
theorem dX4_attack_63 : decode cX4_attack 63 = .ok (.ishl, 1) := by decide +kernel
theorem dX4_attack_64 : decode cX4_attack 64 = .ok (.ior, 1) := by decide +kernel
theorem dX4_attack_65 : decode cX4_attack 65 = .ok (.goto 15, 3) := by decide +kernel
theorem dX4_attack_68 : decode cX4_attack 68 = .ok (.aload_n 0, 1) := by decide +kernel
theorem dX4_attack_69 : decode cX4_attack 69 = .ok (.getfield 13, 3) := by decide +kernel
theorem dX4_attack_72 : decode cX4_attack 72 = .ok (.iload_n 1, 1) := by decide +kernel
theorem dX4_attack_73 : decode cX4_attack 73 = .ok (.iaload, 1) := by decide +kernel
theorem dX4_attack_74 : decode cX4_attack 74 = .ok (.iconst 1, 1) := by decide +kernel
theorem dX4_attack_75 : decode cX4_attack 75 = .ok (.iload_n 2, 1) := by decide +kernel
theorem dX4_attack_76 : decode cX4_attack 76 = .ok (.ishl, 1) := by decide +kernel
theorem dX4_attack_77 : decode cX4_attack 77 = .ok (.iconst (-1), 1) := by decide +kernel
theorem dX4_attack_78 : decode cX4_attack 78 = .ok (.ixor, 1) := by decide +kernel
theorem dX4_attack_79 : decode cX4_attack 79 = .ok (.iand, 1) := by decide +kernel
theorem dX4_attack_80 : decode cX4_attack 80 = .ok (.iastore, 1) := by decide +kernel
theorem dX4_attack_81 : decode cX4_attack 81 = .ok (.aload_n 0, 1) := by decide +kernel
theorem dX4_attack_82 : decode cX4_attack 82 = .ok (.invokevirtual 65, 3) := by decide +kernel
theorem dX4_attack_85 : decode cX4_attack 85 = .ok (.iload 4, 2) := by decide +kernel
theorem dX4_attack_87 : decode cX4_attack 87 = .ok (.ireturn, 1) := by decide +kernel
set_option maxRecDepth 20000 in
theorem ggX4_setTolerance_X4_fail : GoodIn wsX4_setTolerance wsX4_fail := goodIn_r _ [7, 1, 13, 14, 15, 16, 17, 18, 19, 20, 21, 22, 23, 24, 25, 26] (by decide +kernel) (by decide +kernel)
set_option maxRecDepth 20000 in
theorem gX4_setTolerance_X4_fail : GoodIn wsX4_setTolerance (wsV RX4 58 RX4 yX4_fail wsX4_fail) := goodIn_app (goodIn_of _ (by decide +kernel)) ggX4_setTolerance_X4_fail
set_option maxRecDepth 20000 in
theorem ggX4_setTolerance_X4_change : GoodIn wsX4_setTolerance wsX4_change := goodIn_r _ [11, 12, 13, 14, 15, 16, 17, 18, 19, 20, 21, 22, 23, 24, 25, 26] (by decide +kernel) (by decide +kernel)
set_option maxRecDepth 20000 in
theorem gX4_setTolerance_X4_change : GoodIn wsX4_setTolerance (wsV RX4 65 RX4 yX4_change wsX4_change) := goodIn_app (goodIn_of _ (by decide +kernel)) ggX4_setTolerance_X4_change
theorem dX4_setTolerance_0 : decode cX4_setTolerance 0 = .ok (.aload_n 0, 1) := by decide +kernel
theorem dX4_setTolerance_1 : decode cX4_setTolerance 1 = .ok (.iconst 0, 1) := by decide +kernel
theorem dX4_setTolerance_2 : decode cX4_setTolerance 2 = .ok (.putfield 44, 3) := by decide +kernel
theorem dX4_setTolerance_5 : decode cX4_setTolerance 5 = .ok (.iload_n 1, 1) := by decide +kernel
theorem dX4_setTolerance_6 : decode cX4_setTolerance 6 = .ok (.ifCond .lt 9, 3) := by decide +kernel
theorem dX4_setTolerance_9 : decode cX4_setTolerance 9 = .ok (.iload_n 1, 1) := by decide +kernel
theorem dX4_setTolerance_10 : decode cX4_setTolerance 10 = .ok (.bipush 9, 2) := by decide +kernel
theorem dX4_setTolerance_12 : decode cX4_setTolerance 12 = .ok (.if_icmp .le 9, 3) := by decide +kernel
theorem dX4_setTolerance_15 : decode cX4_setTolerance 15 = .ok (.aload_n 0, 1) := by decide +kernel
theorem dX4_setTolerance_16 : decode cX4_setTolerance 16 = .ok (.iconst 1, 1) := by decide +kernel
theorem dX4_setTolerance_17 : decode cX4_setTolerance 17 = .ok (.invokevirtual 58, 3) := by decide +kernel
theorem dX4_setTolerance_20 : decode cX4_setTolerance 20 = .ok (.ireturn, 1) := by decide +kernel
theorem dX4_setTolerance_21 : decode cX4_setTolerance 21 = .ok (.aload_n 0, 1) := by decide +kernel
theorem dX4_setTolerance_22 : decode cX4_setTolerance 22 = .ok (.getfield 16, 3) := by decide +kernel
theorem dX4_setTolerance_25 : decode cX4_setTolerance 25 = .ok (.istore_n 2, 1) := by decide +kernel
theorem dX4_setTolerance_26 : decode cX4_setTolerance 26 = .ok (.aload_n 0, 1) := by decide +kernel
theorem dX4_setTolerance_27 : decode cX4_setTolerance 27 = .ok (.iload_n 1, 1) := by decide +kernel
theorem dX4_setTolerance_28 : decode cX4_setTolerance 28 = .ok (.putfield 16, 3) := by decide +kernel
theorem dX4_setTolerance_31 : decode cX4_setTolerance 31 = .ok (.aload_n 0, 1) := by decide +kernel
theorem dX4_setTolerance_32 : decode cX4_setTolerance 32 = .ok (.invokevirtual 65, 3) := by decide +kernel
theorem dX4_setTolerance_35 : decode cX4_setTolerance 35 = .ok (.iload_n 2, 1) := by decide +kernel
theorem dX4_setTolerance_36 : decode cX4_setTolerance 36 = .ok (.ireturn, 1) := by decide +kernel
theorem dX4_argumentCount_0 : decode cX4_argumentCount 0 = .ok (.aload_n 0, 1) := by decide +kernel
theorem dX4_argumentCount_1 : decode cX4_argumentCount 1 = .ok (.iconst 0, 1) := by decide +kernel
theorem dX4_argumentCount_2 : decode cX4_argumentCount 2 = .ok (.putfield 44, 3) := by decide +kernel
theorem dX4_argumentCount_5 : decode cX4_argumentCount 5 = .ok (.aload_n 0, 1) := by decide +kernel
theorem dX4_argumentCount_6 : decode cX4_argumentCount 6 = .ok (.getfield 47, 3) := by decide +kernel
theorem dX4_argumentCount_9 : decode cX4_argumentCount 9 = .ok (.ireturn, 1) := by decide +kernel
theorem dX4_debate_0 : decode cX4_debate 0 = .ok (.aload_n 0, 1) := by decide +kernel
theorem dX4_debate_1 : decode cX4_debate 1 = .ok (.iconst 0, 1) := by decide +kernel
theorem dX4_debate_2 : decode cX4_debate 2 = .ok (.putfield 44, 3) := by decide +kernel
theorem dX4_debate_5 : decode cX4_debate 5 = .ok (.aload_n 0, 1) := by decide +kernel
theorem dX4_debate_6 : decode cX4_debate 6 = .ok (.getfield 62, 3) := by decide +kernel
theorem dX4_debate_9 : decode cX4_debate 9 = .ok (.ireturn, 1) := by decide +kernel
set_option maxRecDepth 20000 in
theorem ggX4_works_X4_has : GoodIn wsX4_works wsX4_has := goodIn_r _ [8] (by decide +kernel) (by decide +kernel)
set_option maxRecDepth 20000 in
theorem gX4_works_X4_has : GoodIn wsX4_works (va_wsS RX4 71 yX4_has wsX4_has) := goodIn_app (goodIn_of _ (by decide +kernel)) ggX4_works_X4_has
theorem dX4_works_0 : decode cX4_works 0 = .ok (.aload_n 0, 1) := by decide +kernel
theorem dX4_works_1 : decode cX4_works 1 = .ok (.getfield 62, 3) := by decide +kernel
theorem dX4_works_4 : decode cX4_works 4 = .ok (.iload_n 1, 1) := by decide +kernel
theorem dX4_works_5 : decode cX4_works 5 = .ok (.invokestatic 71, 3) := by decide +kernel
theorem dX4_works_8 : decode cX4_works 8 = .ok (.ifCond .eq 51, 3) := by decide +kernel
theorem dX4_works_11 : decode cX4_works 11 = .ok (.aload_n 0, 1) := by decide +kernel
theorem dX4_works_12 : decode cX4_works 12 = .ok (.getfield 62, 3) := by decide +kernel
theorem dX4_works_15 : decode cX4_works 15 = .ok (.iload_n 2, 1) := by decide +kernel
theorem dX4_works_16 : decode cX4_works 16 = .ok (.invokestatic 71, 3) := by decide +kernel
theorem dX4_works_19 : decode cX4_works 19 = .ok (.ifCond .eq 40, 3) := by decide +kernel
theorem dX4_works_22 : decode cX4_works 22 = .ok (.aload_n 0, 1) := by decide +kernel
theorem dX4_works_23 : decode cX4_works 23 = .ok (.getfield 13, 3) := by decide +kernel
theorem dX4_works_26 : decode cX4_works 26 = .ok (.iload_n 1, 1) := by decide +kernel
theorem dX4_works_27 : decode cX4_works 27 = .ok (.iaload, 1) := by decide +kernel
theorem dX4_works_28 : decode cX4_works 28 = .ok (.iload_n 2, 1) := by decide +kernel
theorem dX4_works_29 : decode cX4_works 29 = .ok (.invokestatic 71, 3) := by decide +kernel
theorem dX4_works_32 : decode cX4_works 32 = .ok (.ifCond .eq 27, 3) := by decide +kernel
theorem dX4_works_35 : decode cX4_works 35 = .ok (.aload_n 0, 1) := by decide +kernel
theorem dX4_works_36 : decode cX4_works 36 = .ok (.getfield 9, 3) := by decide +kernel
theorem dX4_works_39 : decode cX4_works 39 = .ok (.iload_n 2, 1) := by decide +kernel
theorem dX4_works_40 : decode cX4_works 40 = .ok (.iaload, 1) := by decide +kernel
theorem dX4_works_41 : decode cX4_works 41 = .ok (.aload_n 0, 1) := by decide +kernel
theorem dX4_works_42 : decode cX4_works 42 = .ok (.getfield 9, 3) := by decide +kernel
theorem dX4_works_45 : decode cX4_works 45 = .ok (.iload_n 1, 1) := by decide +kernel
theorem dX4_works_46 : decode cX4_works 46 = .ok (.iaload, 1) := by decide +kernel
theorem dX4_works_47 : decode cX4_works 47 = .ok (.isub, 1) := by decide +kernel
theorem dX4_works_48 : decode cX4_works 48 = .ok (.aload_n 0, 1) := by decide +kernel
theorem dX4_works_49 : decode cX4_works 49 = .ok (.getfield 16, 3) := by decide +kernel
theorem dX4_works_52 : decode cX4_works 52 = .ok (.if_icmp .gt 7, 3) := by decide +kernel
theorem dX4_works_55 : decode cX4_works 55 = .ok (.iconst 1, 1) := by decide +kernel
theorem dX4_works_56 : decode cX4_works 56 = .ok (.goto 4, 3) := by decide +kernel
theorem dX4_works_59 : decode cX4_works 59 = .ok (.iconst 0, 1) := by decide +kernel
theorem dX4_works_60 : decode cX4_works 60 = .ok (.ireturn, 1) := by decide +kernel
set_option maxRecDepth 20000 in
theorem ggX4_attackersOf_X4_works : GoodIn wsX4_attackersOf wsX4_works := goodIn_r _ [6, 7, 8, 9, 10, 11, 12, 5, 13, 14, 15, 16, 17, 18, 19, 20, 21, 22, 23, 24, 25, 26, 27] (by decide +kernel) (by decide +kernel)
set_option maxRecDepth 20000 in
theorem gX4_attackersOf_X4_works : GoodIn wsX4_attackersOf (wsV RX4 75 RX4 yX4_works wsX4_works) := goodIn_app (goodIn_of _ (by decide +kernel)) ggX4_attackersOf_X4_works
theorem dX4_attackersOf_0 : decode cX4_attackersOf 0 = .ok (.iconst 0, 1) := by decide +kernel
theorem dX4_attackersOf_1 : decode cX4_attackersOf 1 = .ok (.istore_n 2, 1) := by decide +kernel
theorem dX4_attackersOf_2 : decode cX4_attackersOf 2 = .ok (.iconst 0, 1) := by decide +kernel
theorem dX4_attackersOf_3 : decode cX4_attackersOf 3 = .ok (.istore_n 3, 1) := by decide +kernel
theorem dX4_attackersOf_4 : decode cX4_attackersOf 4 = .ok (.iload_n 3, 1) := by decide +kernel
theorem dX4_attackersOf_5 : decode cX4_attackersOf 5 = .ok (.aload_n 0, 1) := by decide +kernel
theorem dX4_attackersOf_6 : decode cX4_attackersOf 6 = .ok (.getfield 47, 3) := by decide +kernel
theorem dX4_attackersOf_9 : decode cX4_attackersOf 9 = .ok (.if_icmp .ge 24, 3) := by decide +kernel
theorem dX4_attackersOf_12 : decode cX4_attackersOf 12 = .ok (.aload_n 0, 1) := by decide +kernel
theorem dX4_attackersOf_13 : decode cX4_attackersOf 13 = .ok (.iload_n 3, 1) := by decide +kernel
theorem dX4_attackersOf_14 : decode cX4_attackersOf 14 = .ok (.iload_n 1, 1) := by decide +kernel
theorem dX4_attackersOf_15 : decode cX4_attackersOf 15 = .ok (.invokevirtual 75, 3) := by decide +kernel
theorem dX4_attackersOf_18 : decode cX4_attackersOf 18 = .ok (.ifCond .eq 9, 3) := by decide +kernel
theorem dX4_attackersOf_21 : decode cX4_attackersOf 21 = .ok (.iload_n 2, 1) := by decide +kernel
theorem dX4_attackersOf_22 : decode cX4_attackersOf 22 = .ok (.iconst 1, 1) := by decide +kernel
theorem dX4_attackersOf_23 : decode cX4_attackersOf 23 = .ok (.iload_n 3, 1) := by decide +kernel
theorem dX4_attackersOf_24 : decode cX4_attackersOf 24 = .ok (.ishl, 1) := by decide +kernel
theorem dX4_attackersOf_25 : decode cX4_attackersOf 25 = .ok (.ior, 1) := by decide +kernel
theorem dX4_attackersOf_26 : decode cX4_attackersOf 26 = .ok (.istore_n 2, 1) := by decide +kernel
theorem dX4_attackersOf_27 : decode cX4_attackersOf 27 = .ok (.iinc 3 1, 3) := by decide +kernel
theorem dX4_attackersOf_30 : decode cX4_attackersOf 30 = .ok (.goto (-26), 3) := by decide +kernel
theorem dX4_attackersOf_33 : decode cX4_attackersOf 33 = .ok (.iload_n 2, 1) := by decide +kernel
theorem dX4_attackersOf_34 : decode cX4_attackersOf 34 = .ok (.ireturn, 1) := by decide +kernel
set_option maxRecDepth 20000 in
theorem ggX4_attackedBy_X4_works : GoodIn wsX4_attackedBy wsX4_works := goodIn_r _ [6, 7, 8, 9, 10, 11, 12, 5, 13, 14, 15, 16, 17, 18, 19, 20, 21, 22, 23, 24, 25, 26, 27] (by decide +kernel) (by decide +kernel)
set_option maxRecDepth 20000 in
theorem gX4_attackedBy_X4_works : GoodIn wsX4_attackedBy (wsV RX4 75 RX4 yX4_works wsX4_works) := goodIn_app (goodIn_of _ (by decide +kernel)) ggX4_attackedBy_X4_works
theorem dX4_attackedBy_0 : decode cX4_attackedBy 0 = .ok (.iconst 0, 1) := by decide +kernel
theorem dX4_attackedBy_1 : decode cX4_attackedBy 1 = .ok (.istore_n 2, 1) := by decide +kernel
theorem dX4_attackedBy_2 : decode cX4_attackedBy 2 = .ok (.iconst 0, 1) := by decide +kernel
theorem dX4_attackedBy_3 : decode cX4_attackedBy 3 = .ok (.istore_n 3, 1) := by decide +kernel
theorem dX4_attackedBy_4 : decode cX4_attackedBy 4 = .ok (.iload_n 3, 1) := by decide +kernel
theorem dX4_attackedBy_5 : decode cX4_attackedBy 5 = .ok (.aload_n 0, 1) := by decide +kernel
theorem dX4_attackedBy_6 : decode cX4_attackedBy 6 = .ok (.getfield 47, 3) := by decide +kernel
theorem dX4_attackedBy_9 : decode cX4_attackedBy 9 = .ok (.if_icmp .ge 24, 3) := by decide +kernel
theorem dX4_attackedBy_12 : decode cX4_attackedBy 12 = .ok (.aload_n 0, 1) := by decide +kernel
theorem dX4_attackedBy_13 : decode cX4_attackedBy 13 = .ok (.iload_n 1, 1) := by decide +kernel
theorem dX4_attackedBy_14 : decode cX4_attackedBy 14 = .ok (.iload_n 3, 1) := by decide +kernel
theorem dX4_attackedBy_15 : decode cX4_attackedBy 15 = .ok (.invokevirtual 75, 3) := by decide +kernel
theorem dX4_attackedBy_18 : decode cX4_attackedBy 18 = .ok (.ifCond .eq 9, 3) := by decide +kernel
theorem dX4_attackedBy_21 : decode cX4_attackedBy 21 = .ok (.iload_n 2, 1) := by decide +kernel
theorem dX4_attackedBy_22 : decode cX4_attackedBy 22 = .ok (.iconst 1, 1) := by decide +kernel
theorem dX4_attackedBy_23 : decode cX4_attackedBy 23 = .ok (.iload_n 3, 1) := by decide +kernel
theorem dX4_attackedBy_24 : decode cX4_attackedBy 24 = .ok (.ishl, 1) := by decide +kernel
theorem dX4_attackedBy_25 : decode cX4_attackedBy 25 = .ok (.ior, 1) := by decide +kernel
theorem dX4_attackedBy_26 : decode cX4_attackedBy 26 = .ok (.istore_n 2, 1) := by decide +kernel
theorem dX4_attackedBy_27 : decode cX4_attackedBy 27 = .ok (.iinc 3 1, 3) := by decide +kernel
theorem dX4_attackedBy_30 : decode cX4_attackedBy 30 = .ok (.goto (-26), 3) := by decide +kernel
theorem dX4_attackedBy_33 : decode cX4_attackedBy 33 = .ok (.iload_n 2, 1) := by decide +kernel
theorem dX4_attackedBy_34 : decode cX4_attackedBy 34 = .ok (.ireturn, 1) := by decide +kernel
set_option maxRecDepth 20000 in
theorem ggX4_attackers_X4_isArgument : GoodIn wsX4_attackers wsX4_isArgument := goodIn_r _ [6, 7, 27, 28, 29, 30, 31, 32, 33, 34, 35, 36, 37, 38, 39, 40] (by decide +kernel) (by decide +kernel)
set_option maxRecDepth 20000 in
theorem gX4_attackers_X4_isArgument : GoodIn wsX4_attackers (wsV RX4 68 RX4 yX4_isArgument wsX4_isArgument) := goodIn_app (goodIn_of _ (by decide +kernel)) ggX4_attackers_X4_isArgument
set_option maxRecDepth 20000 in
theorem ggX4_attackers_X4_attackersOf : GoodIn wsX4_attackers wsX4_attackersOf := goodIn_r _ [11, 7, 12, 13, 14, 5, 15, 16, 17, 18, 19, 20, 21, 22, 27, 28, 29, 30, 31, 32, 33, 34, 35, 36, 37, 38, 39, 40] (by decide +kernel) (by decide +kernel)
set_option maxRecDepth 20000 in
theorem gX4_attackers_X4_attackersOf : GoodIn wsX4_attackers (wsV RX4 78 RX4 yX4_attackersOf wsX4_attackersOf) := goodIn_app (goodIn_of _ (by decide +kernel)) ggX4_attackers_X4_attackersOf
set_option maxRecDepth 20000 in
theorem ggX4_attackers_X4_fail : GoodIn wsX4_attackers wsX4_fail := goodIn_r _ [26, 1, 27, 28, 29, 30, 31, 32, 33, 34, 35, 36, 37, 38, 39, 40] (by decide +kernel) (by decide +kernel)
set_option maxRecDepth 20000 in
theorem gX4_attackers_X4_fail : GoodIn wsX4_attackers (wsV RX4 58 RX4 yX4_fail wsX4_fail) := goodIn_app (goodIn_of _ (by decide +kernel)) ggX4_attackers_X4_fail
theorem dX4_attackers_0 : decode cX4_attackers 0 = .ok (.aload_n 0, 1) := by decide +kernel
theorem dX4_attackers_1 : decode cX4_attackers 1 = .ok (.iconst 0, 1) := by decide +kernel
theorem dX4_attackers_2 : decode cX4_attackers 2 = .ok (.putfield 44, 3) := by decide +kernel
theorem dX4_attackers_5 : decode cX4_attackers 5 = .ok (.aload_n 0, 1) := by decide +kernel
theorem dX4_attackers_6 : decode cX4_attackers 6 = .ok (.iload_n 1, 1) := by decide +kernel
theorem dX4_attackers_7 : decode cX4_attackers 7 = .ok (.invokevirtual 68, 3) := by decide +kernel
theorem dX4_attackers_10 : decode cX4_attackers 10 = .ok (.ifCond .eq 11, 3) := by decide +kernel
theorem dX4_attackers_13 : decode cX4_attackers 13 = .ok (.aload_n 0, 1) := by decide +kernel
theorem dX4_attackers_14 : decode cX4_attackers 14 = .ok (.iload_n 1, 1) := by decide +kernel
theorem dX4_attackers_15 : decode cX4_attackers 15 = .ok (.invokevirtual 78, 3) := by decide +kernel
theorem dX4_attackers_18 : decode cX4_attackers 18 = .ok (.goto 8, 3) := by decide +kernel
theorem dX4_attackers_21 : decode cX4_attackers 21 = .ok (.aload_n 0, 1) := by decide +kernel
theorem dX4_attackers_22 : decode cX4_attackers 22 = .ok (.iconst 1, 1) := by decide +kernel
theorem dX4_attackers_23 : decode cX4_attackers 23 = .ok (.invokevirtual 58, 3) := by decide +kernel
theorem dX4_attackers_26 : decode cX4_attackers 26 = .ok (.ireturn, 1) := by decide +kernel
set_option maxRecDepth 20000 in
theorem ggX4_attacked_X4_isArgument : GoodIn wsX4_attacked wsX4_isArgument := goodIn_r _ [6, 7, 27, 28, 29, 30, 31, 32, 33, 34, 35, 36, 37, 38, 39, 40] (by decide +kernel) (by decide +kernel)
set_option maxRecDepth 20000 in
theorem gX4_attacked_X4_isArgument : GoodIn wsX4_attacked (wsV RX4 68 RX4 yX4_isArgument wsX4_isArgument) := goodIn_app (goodIn_of _ (by decide +kernel)) ggX4_attacked_X4_isArgument
set_option maxRecDepth 20000 in
theorem ggX4_attacked_X4_attackedBy : GoodIn wsX4_attacked wsX4_attackedBy := goodIn_r _ [11, 7, 12, 13, 14, 5, 15, 16, 17, 18, 19, 20, 21, 22, 27, 28, 29, 30, 31, 32, 33, 34, 35, 36, 37, 38, 39, 40] (by decide +kernel) (by decide +kernel)
set_option maxRecDepth 20000 in
theorem gX4_attacked_X4_attackedBy : GoodIn wsX4_attacked (wsV RX4 81 RX4 yX4_attackedBy wsX4_attackedBy) := goodIn_app (goodIn_of _ (by decide +kernel)) ggX4_attacked_X4_attackedBy
set_option maxRecDepth 20000 in
theorem ggX4_attacked_X4_fail : GoodIn wsX4_attacked wsX4_fail := goodIn_r _ [26, 1, 27, 28, 29, 30, 31, 32, 33, 34, 35, 36, 37, 38, 39, 40] (by decide +kernel) (by decide +kernel)
set_option maxRecDepth 20000 in
theorem gX4_attacked_X4_fail : GoodIn wsX4_attacked (wsV RX4 58 RX4 yX4_fail wsX4_fail) := goodIn_app (goodIn_of _ (by decide +kernel)) ggX4_attacked_X4_fail
theorem dX4_attacked_0 : decode cX4_attacked 0 = .ok (.aload_n 0, 1) := by decide +kernel
theorem dX4_attacked_1 : decode cX4_attacked 1 = .ok (.iconst 0, 1) := by decide +kernel
theorem dX4_attacked_2 : decode cX4_attacked 2 = .ok (.putfield 44, 3) := by decide +kernel
theorem dX4_attacked_5 : decode cX4_attacked 5 = .ok (.aload_n 0, 1) := by decide +kernel
theorem dX4_attacked_6 : decode cX4_attacked 6 = .ok (.iload_n 1, 1) := by decide +kernel
theorem dX4_attacked_7 : decode cX4_attacked 7 = .ok (.invokevirtual 68, 3) := by decide +kernel
theorem dX4_attacked_10 : decode cX4_attacked 10 = .ok (.ifCond .eq 11, 3) := by decide +kernel
theorem dX4_attacked_13 : decode cX4_attacked 13 = .ok (.aload_n 0, 1) := by decide +kernel
theorem dX4_attacked_14 : decode cX4_attacked 14 = .ok (.iload_n 1, 1) := by decide +kernel
theorem dX4_attacked_15 : decode cX4_attacked 15 = .ok (.invokevirtual 81, 3) := by decide +kernel
theorem dX4_attacked_18 : decode cX4_attacked 18 = .ok (.goto 8, 3) := by decide +kernel
theorem dX4_attacked_21 : decode cX4_attacked 21 = .ok (.aload_n 0, 1) := by decide +kernel
theorem dX4_attacked_22 : decode cX4_attacked 22 = .ok (.iconst 1, 1) := by decide +kernel
theorem dX4_attacked_23 : decode cX4_attacked 23 = .ok (.invokevirtual 58, 3) := by decide +kernel
theorem dX4_attacked_26 : decode cX4_attacked 26 = .ok (.ireturn, 1) := by decide +kernel
set_option maxRecDepth 20000 in
theorem ggX4_attackCount_X4_attackedBy : GoodIn wsX4_attackCount wsX4_attackedBy := goodIn_r _ [7, 2, 8, 9, 10, 6, 11, 12, 13, 14, 15, 16, 17, 18, 26, 27, 28, 29, 30, 31, 32, 33, 34, 35, 36, 37, 38, 39] (by decide +kernel) (by decide +kernel)
set_option maxRecDepth 20000 in
theorem gX4_attackCount_X4_attackedBy : GoodIn wsX4_attackCount (wsV RX4 81 RX4 yX4_attackedBy wsX4_attackedBy) := goodIn_app (goodIn_of _ (by decide +kernel)) ggX4_attackCount_X4_attackedBy
set_option maxRecDepth 20000 in
theorem ggX4_attackCount_J6_bitCount_0f7a4 : GoodIn wsX4_attackCount wsJ6_bitCount_0f7a4 := goodIn_r _ [22, 23, 24, 25] (by decide +kernel) (by decide +kernel)
set_option maxRecDepth 20000 in
theorem gX4_attackCount_J6_bitCount_0f7a4 : GoodIn wsX4_attackCount (va_wsS RX4 84 yJ6_bitCount_0f7a4 wsJ6_bitCount_0f7a4) := goodIn_app (goodIn_of _ (by decide +kernel)) ggX4_attackCount_J6_bitCount_0f7a4
theorem dX4_attackCount_0 : decode cX4_attackCount 0 = .ok (.aload_n 0, 1) := by decide +kernel
theorem dX4_attackCount_1 : decode cX4_attackCount 1 = .ok (.iconst 0, 1) := by decide +kernel
theorem dX4_attackCount_2 : decode cX4_attackCount 2 = .ok (.putfield 44, 3) := by decide +kernel
theorem dX4_attackCount_5 : decode cX4_attackCount 5 = .ok (.iconst 0, 1) := by decide +kernel
theorem dX4_attackCount_6 : decode cX4_attackCount 6 = .ok (.istore_n 1, 1) := by decide +kernel
theorem dX4_attackCount_7 : decode cX4_attackCount 7 = .ok (.iconst 0, 1) := by decide +kernel
theorem dX4_attackCount_8 : decode cX4_attackCount 8 = .ok (.istore_n 2, 1) := by decide +kernel
theorem dX4_attackCount_9 : decode cX4_attackCount 9 = .ok (.iload_n 2, 1) := by decide +kernel
theorem dX4_attackCount_10 : decode cX4_attackCount 10 = .ok (.aload_n 0, 1) := by decide +kernel
theorem dX4_attackCount_11 : decode cX4_attackCount 11 = .ok (.getfield 47, 3) := by decide +kernel
theorem dX4_attackCount_14 : decode cX4_attackCount 14 = .ok (.if_icmp .ge 20, 3) := by decide +kernel
theorem dX4_attackCount_17 : decode cX4_attackCount 17 = .ok (.iload_n 1, 1) := by decide +kernel
theorem dX4_attackCount_18 : decode cX4_attackCount 18 = .ok (.aload_n 0, 1) := by decide +kernel
theorem dX4_attackCount_19 : decode cX4_attackCount 19 = .ok (.iload_n 2, 1) := by decide +kernel
theorem dX4_attackCount_20 : decode cX4_attackCount 20 = .ok (.invokevirtual 81, 3) := by decide +kernel
theorem dX4_attackCount_23 : decode cX4_attackCount 23 = .ok (.invokestatic 84, 3) := by decide +kernel
theorem dX4_attackCount_26 : decode cX4_attackCount 26 = .ok (.iadd, 1) := by decide +kernel
theorem dX4_attackCount_27 : decode cX4_attackCount 27 = .ok (.istore_n 1, 1) := by decide +kernel
theorem dX4_attackCount_28 : decode cX4_attackCount 28 = .ok (.iinc 2 1, 3) := by decide +kernel
theorem dX4_attackCount_31 : decode cX4_attackCount 31 = .ok (.goto (-22), 3) := by decide +kernel
theorem dX4_attackCount_34 : decode cX4_attackCount 34 = .ok (.iload_n 1, 1) := by decide +kernel
theorem dX4_attackCount_35 : decode cX4_attackCount 35 = .ok (.ireturn, 1) := by decide +kernel
set_option maxRecDepth 20000 in
theorem ggX4_look_X4_attackersOf : GoodIn wsX4_look wsX4_attackersOf := goodIn_r _ [8, 1, 9, 10, 11, 7, 12, 13, 14, 15, 16, 17, 18, 19, 24, 25, 26, 27, 28, 29, 30, 31, 32, 33, 34, 35, 36, 37] (by decide +kernel) (by decide +kernel)
set_option maxRecDepth 20000 in
theorem gX4_look_X4_attackersOf : GoodIn wsX4_look (wsV RX4 78 RX4 yX4_attackersOf wsX4_attackersOf) := goodIn_app (goodIn_of _ (by decide +kernel)) ggX4_look_X4_attackersOf
set_option maxRecDepth 20000 in
theorem ggX4_look_X4_attackedBy : GoodIn wsX4_look wsX4_attackedBy := goodIn_r _ [23, 1, 9, 10, 11, 7, 12, 13, 14, 15, 16, 17, 18, 19, 24, 25, 26, 27, 28, 29, 30, 31, 32, 33, 34, 35, 36, 37] (by decide +kernel) (by decide +kernel)
set_option maxRecDepth 20000 in
theorem gX4_look_X4_attackedBy : GoodIn wsX4_look (wsV RX4 81 RX4 yX4_attackedBy wsX4_attackedBy) := goodIn_app (goodIn_of _ (by decide +kernel)) ggX4_look_X4_attackedBy
theorem dX4_look_0 : decode cX4_look 0 = .ok (.iconst 0, 1) := by decide +kernel
theorem dX4_look_1 : decode cX4_look 1 = .ok (.istore_n 1, 1) := by decide +kernel
theorem dX4_look_2 : decode cX4_look 2 = .ok (.iload_n 1, 1) := by decide +kernel
theorem dX4_look_3 : decode cX4_look 3 = .ok (.aload_n 0, 1) := by decide +kernel
theorem dX4_look_4 : decode cX4_look 4 = .ok (.getfield 47, 3) := by decide +kernel
theorem dX4_look_7 : decode cX4_look 7 = .ok (.if_icmp .ge 31, 3) := by decide +kernel
theorem dX4_look_10 : decode cX4_look 10 = .ok (.aload_n 0, 1) := by decide +kernel
theorem dX4_look_11 : decode cX4_look 11 = .ok (.getfield 26, 3) := by decide +kernel
theorem dX4_look_14 : decode cX4_look 14 = .ok (.iload_n 1, 1) := by decide +kernel
theorem dX4_look_15 : decode cX4_look 15 = .ok (.aload_n 0, 1) := by decide +kernel
theorem dX4_look_16 : decode cX4_look 16 = .ok (.iload_n 1, 1) := by decide +kernel
theorem dX4_look_17 : decode cX4_look 17 = .ok (.invokevirtual 78, 3) := by decide +kernel
theorem dX4_look_20 : decode cX4_look 20 = .ok (.iastore, 1) := by decide +kernel
theorem dX4_look_21 : decode cX4_look 21 = .ok (.aload_n 0, 1) := by decide +kernel
theorem dX4_look_22 : decode cX4_look 22 = .ok (.getfield 29, 3) := by decide +kernel
theorem dX4_look_25 : decode cX4_look 25 = .ok (.iload_n 1, 1) := by decide +kernel
theorem dX4_look_26 : decode cX4_look 26 = .ok (.aload_n 0, 1) := by decide +kernel
theorem dX4_look_27 : decode cX4_look 27 = .ok (.iload_n 1, 1) := by decide +kernel
theorem dX4_look_28 : decode cX4_look 28 = .ok (.invokevirtual 81, 3) := by decide +kernel
theorem dX4_look_31 : decode cX4_look 31 = .ok (.iastore, 1) := by decide +kernel
theorem dX4_look_32 : decode cX4_look 32 = .ok (.iinc 1 1, 3) := by decide +kernel
theorem dX4_look_35 : decode cX4_look 35 = .ok (.goto (-33), 3) := by decide +kernel
theorem dX4_look_38 : decode cX4_look 38 = .ok (.return_, 1) := by decide +kernel
set_option maxRecDepth 20000 in
theorem ggX4_hit_X4_has : GoodIn wsX4_hit wsX4_has := goodIn_r _ [6] (by decide +kernel) (by decide +kernel)
set_option maxRecDepth 20000 in
theorem gX4_hit_X4_has : GoodIn wsX4_hit (va_wsS RX4 71 yX4_has wsX4_has) := goodIn_app (goodIn_of _ (by decide +kernel)) ggX4_hit_X4_has
theorem dX4_hit_0 : decode cX4_hit 0 = .ok (.iconst 0, 1) := by decide +kernel
theorem dX4_hit_1 : decode cX4_hit 1 = .ok (.istore_n 2, 1) := by decide +kernel
theorem dX4_hit_2 : decode cX4_hit 2 = .ok (.iconst 0, 1) := by decide +kernel
theorem dX4_hit_3 : decode cX4_hit 3 = .ok (.istore_n 3, 1) := by decide +kernel
theorem dX4_hit_4 : decode cX4_hit 4 = .ok (.iload_n 3, 1) := by decide +kernel
theorem dX4_hit_5 : decode cX4_hit 5 = .ok (.aload_n 0, 1) := by decide +kernel
theorem dX4_hit_6 : decode cX4_hit 6 = .ok (.getfield 47, 3) := by decide +kernel
theorem dX4_hit_9 : decode cX4_hit 9 = .ok (.if_icmp .ge 26, 3) := by decide +kernel
theorem dX4_hit_12 : decode cX4_hit 12 = .ok (.iload_n 1, 1) := by decide +kernel
theorem dX4_hit_13 : decode cX4_hit 13 = .ok (.iload_n 3, 1) := by decide +kernel
theorem dX4_hit_14 : decode cX4_hit 14 = .ok (.invokestatic 71, 3) := by decide +kernel
theorem dX4_hit_17 : decode cX4_hit 17 = .ok (.ifCond .eq 12, 3) := by decide +kernel
theorem dX4_hit_20 : decode cX4_hit 20 = .ok (.iload_n 2, 1) := by decide +kernel
theorem dX4_hit_21 : decode cX4_hit 21 = .ok (.aload_n 0, 1) := by decide +kernel
theorem dX4_hit_22 : decode cX4_hit 22 = .ok (.getfield 29, 3) := by decide +kernel
theorem dX4_hit_25 : decode cX4_hit 25 = .ok (.iload_n 3, 1) := by decide +kernel
theorem dX4_hit_26 : decode cX4_hit 26 = .ok (.iaload, 1) := by decide +kernel
theorem dX4_hit_27 : decode cX4_hit 27 = .ok (.ior, 1) := by decide +kernel
theorem dX4_hit_28 : decode cX4_hit 28 = .ok (.istore_n 2, 1) := by decide +kernel
theorem dX4_hit_29 : decode cX4_hit 29 = .ok (.iinc 3 1, 3) := by decide +kernel
theorem dX4_hit_32 : decode cX4_hit 32 = .ok (.goto (-28), 3) := by decide +kernel
theorem dX4_hit_35 : decode cX4_hit 35 = .ok (.iload_n 2, 1) := by decide +kernel
theorem dX4_hit_36 : decode cX4_hit 36 = .ok (.ireturn, 1) := by decide +kernel
set_option maxRecDepth 20000 in
theorem ggX4_isFreeSet_X4_hit : GoodIn wsX4_isFreeSet wsX4_hit := goodIn_r _ [5, 6, 7, 8, 9, 4, 10, 11, 12, 13, 14, 15, 16, 17, 18, 19, 20, 21, 22, 23, 24] (by decide +kernel) (by decide +kernel)
set_option maxRecDepth 20000 in
theorem gX4_isFreeSet_X4_hit : GoodIn wsX4_isFreeSet (wsV RX4 89 RX4 yX4_hit wsX4_hit) := goodIn_app (goodIn_of _ (by decide +kernel)) ggX4_isFreeSet_X4_hit
theorem dX4_isFreeSet_0 : decode cX4_isFreeSet 0 = .ok (.aload_n 0, 1) := by decide +kernel
theorem dX4_isFreeSet_1 : decode cX4_isFreeSet 1 = .ok (.iload_n 1, 1) := by decide +kernel
theorem dX4_isFreeSet_2 : decode cX4_isFreeSet 2 = .ok (.invokevirtual 89, 3) := by decide +kernel
theorem dX4_isFreeSet_5 : decode cX4_isFreeSet 5 = .ok (.iload_n 1, 1) := by decide +kernel
theorem dX4_isFreeSet_6 : decode cX4_isFreeSet 6 = .ok (.iand, 1) := by decide +kernel
theorem dX4_isFreeSet_7 : decode cX4_isFreeSet 7 = .ok (.ifCond .ne 7, 3) := by decide +kernel
theorem dX4_isFreeSet_10 : decode cX4_isFreeSet 10 = .ok (.iconst 1, 1) := by decide +kernel
theorem dX4_isFreeSet_11 : decode cX4_isFreeSet 11 = .ok (.goto 4, 3) := by decide +kernel
theorem dX4_isFreeSet_14 : decode cX4_isFreeSet 14 = .ok (.iconst 0, 1) := by decide +kernel
theorem dX4_isFreeSet_15 : decode cX4_isFreeSet 15 = .ok (.ireturn, 1) := by decide +kernel
set_option maxRecDepth 20000 in
theorem ggX4_defendedBy_X4_hit : GoodIn wsX4_defendedBy wsX4_hit := goodIn_r _ [8, 1, 9, 10, 11, 7, 12, 13, 14, 15, 16, 17, 18, 19, 20, 21, 22, 23, 24, 25, 26] (by decide +kernel) (by decide +kernel)
set_option maxRecDepth 20000 in
theorem gX4_defendedBy_X4_hit : GoodIn wsX4_defendedBy (wsV RX4 89 RX4 yX4_hit wsX4_hit) := goodIn_app (goodIn_of _ (by decide +kernel)) ggX4_defendedBy_X4_hit
set_option maxRecDepth 20000 in
theorem ggX4_defendedBy_X4_has : GoodIn wsX4_defendedBy wsX4_has := goodIn_r _ [12] (by decide +kernel) (by decide +kernel)
set_option maxRecDepth 20000 in
theorem gX4_defendedBy_X4_has : GoodIn wsX4_defendedBy (va_wsS RX4 71 yX4_has wsX4_has) := goodIn_app (goodIn_of _ (by decide +kernel)) ggX4_defendedBy_X4_has
theorem dX4_defendedBy_0 : decode cX4_defendedBy 0 = .ok (.aload_n 0, 1) := by decide +kernel
theorem dX4_defendedBy_1 : decode cX4_defendedBy 1 = .ok (.iload_n 1, 1) := by decide +kernel
theorem dX4_defendedBy_2 : decode cX4_defendedBy 2 = .ok (.invokevirtual 89, 3) := by decide +kernel
theorem dX4_defendedBy_5 : decode cX4_defendedBy 5 = .ok (.istore_n 2, 1) := by decide +kernel
theorem dX4_defendedBy_6 : decode cX4_defendedBy 6 = .ok (.iconst 0, 1) := by decide +kernel
theorem dX4_defendedBy_7 : decode cX4_defendedBy 7 = .ok (.istore_n 3, 1) := by decide +kernel
theorem dX4_defendedBy_8 : decode cX4_defendedBy 8 = .ok (.iconst 0, 1) := by decide +kernel
theorem dX4_defendedBy_9 : decode cX4_defendedBy 9 = .ok (.istore 4, 2) := by decide +kernel
theorem dX4_defendedBy_11 : decode cX4_defendedBy 11 = .ok (.iload 4, 2) := by decide +kernel
theorem dX4_defendedBy_13 : decode cX4_defendedBy 13 = .ok (.aload_n 0, 1) := by decide +kernel
theorem dX4_defendedBy_14 : decode cX4_defendedBy 14 = .ok (.getfield 47, 3) := by decide +kernel
theorem dX4_defendedBy_17 : decode cX4_defendedBy 17 = .ok (.if_icmp .ge 42, 3) := by decide +kernel
theorem dX4_defendedBy_20 : decode cX4_defendedBy 20 = .ok (.aload_n 0, 1) := by decide +kernel
theorem dX4_defendedBy_21 : decode cX4_defendedBy 21 = .ok (.getfield 62, 3) := by decide +kernel
theorem dX4_defendedBy_24 : decode cX4_defendedBy 24 = .ok (.iload 4, 2) := by decide +kernel
theorem dX4_defendedBy_26 : decode cX4_defendedBy 26 = .ok (.invokestatic 71, 3) := by decide +kernel
theorem dX4_defendedBy_29 : decode cX4_defendedBy 29 = .ok (.ifCond .eq 24, 3) := by decide +kernel
theorem dX4_defendedBy_32 : decode cX4_defendedBy 32 = .ok (.aload_n 0, 1) := by decide +kernel
theorem dX4_defendedBy_33 : decode cX4_defendedBy 33 = .ok (.getfield 26, 3) := by decide +kernel
theorem dX4_defendedBy_36 : decode cX4_defendedBy 36 = .ok (.iload 4, 2) := by decide +kernel
theorem dX4_defendedBy_38 : decode cX4_defendedBy 38 = .ok (.iaload, 1) := by decide +kernel
theorem dX4_defendedBy_39 : decode cX4_defendedBy 39 = .ok (.iload_n 2, 1) := by decide +kernel
theorem dX4_defendedBy_40 : decode cX4_defendedBy 40 = .ok (.iconst (-1), 1) := by decide +kernel
theorem dX4_defendedBy_41 : decode cX4_defendedBy 41 = .ok (.ixor, 1) := by decide +kernel
theorem dX4_defendedBy_42 : decode cX4_defendedBy 42 = .ok (.iand, 1) := by decide +kernel
theorem dX4_defendedBy_43 : decode cX4_defendedBy 43 = .ok (.ifCond .ne 10, 3) := by decide +kernel
theorem dX4_defendedBy_46 : decode cX4_defendedBy 46 = .ok (.iload_n 3, 1) := by decide +kernel
theorem dX4_defendedBy_47 : decode cX4_defendedBy 47 = .ok (.iconst 1, 1) := by decide +kernel
theorem dX4_defendedBy_48 : decode cX4_defendedBy 48 = .ok (.iload 4, 2) := by decide +kernel
theorem dX4_defendedBy_50 : decode cX4_defendedBy 50 = .ok (.ishl, 1) := by decide +kernel
theorem dX4_defendedBy_51 : decode cX4_defendedBy 51 = .ok (.ior, 1) := by decide +kernel
theorem dX4_defendedBy_52 : decode cX4_defendedBy 52 = .ok (.istore_n 3, 1) := by decide +kernel
theorem dX4_defendedBy_53 : decode cX4_defendedBy 53 = .ok (.iinc 4 1, 3) := by decide +kernel
theorem dX4_defendedBy_56 : decode cX4_defendedBy 56 = .ok (.goto (-45), 3) := by decide +kernel
theorem dX4_defendedBy_59 : decode cX4_defendedBy 59 = .ok (.iload_n 3, 1) := by decide +kernel
theorem dX4_defendedBy_60 : decode cX4_defendedBy 60 = .ok (.ireturn, 1) := by decide +kernel
set_option maxRecDepth 20000 in
theorem ggX4_isAdmissibleSet_X4_isFreeSet : GoodIn wsX4_isAdmissibleSet wsX4_isFreeSet := goodIn_r _ [5, 6, 7, 8, 4, 9, 10, 11, 12, 13, 14, 21, 22, 23, 24, 25, 26, 27, 28, 29, 30, 31, 32, 33, 34] (by decide +kernel) (by decide +kernel)
set_option maxRecDepth 20000 in
theorem gX4_isAdmissibleSet_X4_isFreeSet : GoodIn wsX4_isAdmissibleSet (wsV RX4 92 RX4 yX4_isFreeSet wsX4_isFreeSet) := goodIn_app (goodIn_of _ (by decide +kernel)) ggX4_isAdmissibleSet_X4_isFreeSet
set_option maxRecDepth 20000 in
theorem ggX4_isAdmissibleSet_X4_defendedBy : GoodIn wsX4_isAdmissibleSet wsX4_defendedBy := goodIn_r _ [18, 10, 19, 20, 6, 7, 8, 4, 9, 11, 12, 13, 14, 21, 22, 23, 24, 25, 26, 27, 28, 29, 30, 31, 32, 33, 34] (by decide +kernel) (by decide +kernel)
set_option maxRecDepth 20000 in
theorem gX4_isAdmissibleSet_X4_defendedBy : GoodIn wsX4_isAdmissibleSet (wsV RX4 95 RX4 yX4_defendedBy wsX4_defendedBy) := goodIn_app (goodIn_of _ (by decide +kernel)) ggX4_isAdmissibleSet_X4_defendedBy
theorem dX4_isAdmissibleSet_0 : decode cX4_isAdmissibleSet 0 = .ok (.aload_n 0, 1) := by decide +kernel
theorem dX4_isAdmissibleSet_1 : decode cX4_isAdmissibleSet 1 = .ok (.iload_n 1, 1) := by decide +kernel
theorem dX4_isAdmissibleSet_2 : decode cX4_isAdmissibleSet 2 = .ok (.invokevirtual 92, 3) := by decide +kernel
theorem dX4_isAdmissibleSet_5 : decode cX4_isAdmissibleSet 5 = .ok (.ifCond .eq 19, 3) := by decide +kernel
theorem dX4_isAdmissibleSet_8 : decode cX4_isAdmissibleSet 8 = .ok (.iload_n 1, 1) := by decide +kernel
theorem dX4_isAdmissibleSet_9 : decode cX4_isAdmissibleSet 9 = .ok (.aload_n 0, 1) := by decide +kernel
theorem dX4_isAdmissibleSet_10 : decode cX4_isAdmissibleSet 10 = .ok (.iload_n 1, 1) := by decide +kernel
theorem dX4_isAdmissibleSet_11 : decode cX4_isAdmissibleSet 11 = .ok (.invokevirtual 95, 3) := by decide +kernel
theorem dX4_isAdmissibleSet_14 : decode cX4_isAdmissibleSet 14 = .ok (.iconst (-1), 1) := by decide +kernel
theorem dX4_isAdmissibleSet_15 : decode cX4_isAdmissibleSet 15 = .ok (.ixor, 1) := by decide +kernel
theorem dX4_isAdmissibleSet_16 : decode cX4_isAdmissibleSet 16 = .ok (.iand, 1) := by decide +kernel
theorem dX4_isAdmissibleSet_17 : decode cX4_isAdmissibleSet 17 = .ok (.ifCond .ne 7, 3) := by decide +kernel
theorem dX4_isAdmissibleSet_20 : decode cX4_isAdmissibleSet 20 = .ok (.iconst 1, 1) := by decide +kernel
theorem dX4_isAdmissibleSet_21 : decode cX4_isAdmissibleSet 21 = .ok (.goto 4, 3) := by decide +kernel
theorem dX4_isAdmissibleSet_24 : decode cX4_isAdmissibleSet 24 = .ok (.iconst 0, 1) := by decide +kernel
theorem dX4_isAdmissibleSet_25 : decode cX4_isAdmissibleSet 25 = .ok (.ireturn, 1) := by decide +kernel
set_option maxRecDepth 20000 in
theorem ggX4_isFree_X4_isSet : GoodIn wsX4_isFree wsX4_isSet := goodIn_r _ [7, 8, 41, 42, 43, 44, 45, 46, 47, 48, 49, 50, 51, 52, 53, 54] (by decide +kernel) (by decide +kernel)
set_option maxRecDepth 20000 in
theorem gX4_isFree_X4_isSet : GoodIn wsX4_isFree (wsV RX4 98 RX4 yX4_isSet wsX4_isSet) := goodIn_app (goodIn_of _ (by decide +kernel)) ggX4_isFree_X4_isSet
set_option maxRecDepth 20000 in
theorem ggX4_isFree_X4_look : GoodIn wsX4_isFree wsX4_look := goodIn_r _ [12, 8, 13, 14, 15, 16, 17, 6, 18, 19, 20, 21, 22, 2, 23, 24, 25, 26, 27, 28, 29, 30, 31, 32, 41, 42, 43, 44, 45, 46, 47, 48, 49, 50, 51, 52, 53, 54] (by decide +kernel) (by decide +kernel)
set_option maxRecDepth 20000 in
theorem gX4_isFree_X4_look : GoodIn wsX4_isFree (wsV RX4 101 RX4 yX4_look wsX4_look) := goodIn_app (goodIn_of _ (by decide +kernel)) ggX4_isFree_X4_look
set_option maxRecDepth 20000 in
theorem ggX4_isFree_X4_isFreeSet : GoodIn wsX4_isFree wsX4_isFreeSet := goodIn_r _ [36, 37, 38, 39, 6, 40, 8, 14, 26, 27, 28, 41, 42, 43, 44, 45, 46, 47, 48, 49, 50, 51, 52, 53, 54] (by decide +kernel) (by decide +kernel)
set_option maxRecDepth 20000 in
theorem gX4_isFree_X4_isFreeSet : GoodIn wsX4_isFree (wsV RX4 92 RX4 yX4_isFreeSet wsX4_isFreeSet) := goodIn_app (goodIn_of _ (by decide +kernel)) ggX4_isFree_X4_isFreeSet
theorem dX4_isFree_0 : decode cX4_isFree 0 = .ok (.aload_n 0, 1) := by decide +kernel
theorem dX4_isFree_1 : decode cX4_isFree 1 = .ok (.aload_n 0, 1) := by decide +kernel
theorem dX4_isFree_2 : decode cX4_isFree 2 = .ok (.iload_n 1, 1) := by decide +kernel
theorem dX4_isFree_3 : decode cX4_isFree 3 = .ok (.invokevirtual 98, 3) := by decide +kernel
theorem dX4_isFree_6 : decode cX4_isFree 6 = .ok (.ifCond .eq 7, 3) := by decide +kernel
theorem dX4_isFree_9 : decode cX4_isFree 9 = .ok (.iconst 0, 1) := by decide +kernel
theorem dX4_isFree_10 : decode cX4_isFree 10 = .ok (.goto 4, 3) := by decide +kernel
theorem dX4_isFree_13 : decode cX4_isFree 13 = .ok (.iconst 1, 1) := by decide +kernel
theorem dX4_isFree_14 : decode cX4_isFree 14 = .ok (.putfield 44, 3) := by decide +kernel
theorem dX4_isFree_17 : decode cX4_isFree 17 = .ok (.aload_n 0, 1) := by decide +kernel
theorem dX4_isFree_18 : decode cX4_isFree 18 = .ok (.invokevirtual 101, 3) := by decide +kernel
theorem dX4_isFree_21 : decode cX4_isFree 21 = .ok (.aload_n 0, 1) := by decide +kernel
theorem dX4_isFree_22 : decode cX4_isFree 22 = .ok (.getfield 44, 3) := by decide +kernel
theorem dX4_isFree_25 : decode cX4_isFree 25 = .ok (.ifCond .ne 20, 3) := by decide +kernel
theorem dX4_isFree_28 : decode cX4_isFree 28 = .ok (.aload_n 0, 1) := by decide +kernel
theorem dX4_isFree_29 : decode cX4_isFree 29 = .ok (.iload_n 1, 1) := by decide +kernel
theorem dX4_isFree_30 : decode cX4_isFree 30 = .ok (.aload_n 0, 1) := by decide +kernel
theorem dX4_isFree_31 : decode cX4_isFree 31 = .ok (.getfield 62, 3) := by decide +kernel
theorem dX4_isFree_34 : decode cX4_isFree 34 = .ok (.iand, 1) := by decide +kernel
theorem dX4_isFree_35 : decode cX4_isFree 35 = .ok (.invokevirtual 92, 3) := by decide +kernel
theorem dX4_isFree_38 : decode cX4_isFree 38 = .ok (.ifCond .eq 7, 3) := by decide +kernel
theorem dX4_isFree_41 : decode cX4_isFree 41 = .ok (.iconst 1, 1) := by decide +kernel
theorem dX4_isFree_42 : decode cX4_isFree 42 = .ok (.goto 4, 3) := by decide +kernel
theorem dX4_isFree_45 : decode cX4_isFree 45 = .ok (.iconst 0, 1) := by decide +kernel
theorem dX4_isFree_46 : decode cX4_isFree 46 = .ok (.ireturn, 1) := by decide +kernel
set_option maxRecDepth 20000 in
theorem ggX4_defended_X4_isSet : GoodIn wsX4_defended wsX4_isSet := goodIn_r _ [7, 8, 45, 46, 47, 48, 49, 50, 51, 52, 53, 54, 55, 56, 57, 58] (by decide +kernel) (by decide +kernel)
set_option maxRecDepth 20000 in
theorem gX4_defended_X4_isSet : GoodIn wsX4_defended (wsV RX4 98 RX4 yX4_isSet wsX4_isSet) := goodIn_app (goodIn_of _ (by decide +kernel)) ggX4_defended_X4_isSet
set_option maxRecDepth 20000 in
theorem ggX4_defended_X4_fail : GoodIn wsX4_defended wsX4_fail := goodIn_r _ [12, 1, 45, 46, 47, 48, 49, 50, 51, 52, 53, 54, 55, 56, 57, 58] (by decide +kernel) (by decide +kernel)
set_option maxRecDepth 20000 in
theorem gX4_defended_X4_fail : GoodIn wsX4_defended (wsV RX4 58 RX4 yX4_fail wsX4_fail) := goodIn_app (goodIn_of _ (by decide +kernel)) ggX4_defended_X4_fail
set_option maxRecDepth 20000 in
theorem ggX4_defended_X4_look : GoodIn wsX4_defended wsX4_look := goodIn_r _ [16, 8, 17, 18, 19, 20, 21, 6, 22, 23, 24, 25, 26, 2, 27, 28, 29, 30, 31, 32, 33, 34, 35, 36, 45, 46, 47, 48, 49, 50, 51, 52, 53, 54, 55, 56, 57, 58] (by decide +kernel) (by decide +kernel)
set_option maxRecDepth 20000 in
theorem gX4_defended_X4_look : GoodIn wsX4_defended (wsV RX4 101 RX4 yX4_look wsX4_look) := goodIn_app (goodIn_of _ (by decide +kernel)) ggX4_defended_X4_look
set_option maxRecDepth 20000 in
theorem ggX4_defended_X4_defendedBy : GoodIn wsX4_defended wsX4_defendedBy := goodIn_r _ [40, 8, 2, 17, 41, 42, 43, 6, 44, 18, 30, 31, 32, 45, 46, 47, 48, 49, 50, 51, 52, 53, 54, 55, 56, 57, 58] (by decide +kernel) (by decide +kernel)
set_option maxRecDepth 20000 in
theorem gX4_defended_X4_defendedBy : GoodIn wsX4_defended (wsV RX4 95 RX4 yX4_defendedBy wsX4_defendedBy) := goodIn_app (goodIn_of _ (by decide +kernel)) ggX4_defended_X4_defendedBy
theorem dX4_defended_0 : decode cX4_defended 0 = .ok (.aload_n 0, 1) := by decide +kernel
theorem dX4_defended_1 : decode cX4_defended 1 = .ok (.iconst 0, 1) := by decide +kernel
theorem dX4_defended_2 : decode cX4_defended 2 = .ok (.putfield 44, 3) := by decide +kernel
theorem dX4_defended_5 : decode cX4_defended 5 = .ok (.aload_n 0, 1) := by decide +kernel
theorem dX4_defended_6 : decode cX4_defended 6 = .ok (.iload_n 1, 1) := by decide +kernel
theorem dX4_defended_7 : decode cX4_defended 7 = .ok (.invokevirtual 98, 3) := by decide +kernel
theorem dX4_defended_10 : decode cX4_defended 10 = .ok (.ifCond .ne 9, 3) := by decide +kernel
theorem dX4_defended_13 : decode cX4_defended 13 = .ok (.aload_n 0, 1) := by decide +kernel
theorem dX4_defended_14 : decode cX4_defended 14 = .ok (.iconst 1, 1) := by decide +kernel
theorem dX4_defended_15 : decode cX4_defended 15 = .ok (.invokevirtual 58, 3) := by decide +kernel
theorem dX4_defended_18 : decode cX4_defended 18 = .ok (.ireturn, 1) := by decide +kernel
theorem dX4_defended_19 : decode cX4_defended 19 = .ok (.aload_n 0, 1) := by decide +kernel
theorem dX4_defended_20 : decode cX4_defended 20 = .ok (.invokevirtual 101, 3) := by decide +kernel
theorem dX4_defended_23 : decode cX4_defended 23 = .ok (.aload_n 0, 1) := by decide +kernel
theorem dX4_defended_24 : decode cX4_defended 24 = .ok (.iload_n 1, 1) := by decide +kernel
theorem dX4_defended_25 : decode cX4_defended 25 = .ok (.aload_n 0, 1) := by decide +kernel
theorem dX4_defended_26 : decode cX4_defended 26 = .ok (.getfield 62, 3) := by decide +kernel
theorem dX4_defended_29 : decode cX4_defended 29 = .ok (.iand, 1) := by decide +kernel
theorem dX4_defended_30 : decode cX4_defended 30 = .ok (.invokevirtual 95, 3) := by decide +kernel
theorem dX4_defended_33 : decode cX4_defended 33 = .ok (.ireturn, 1) := by decide +kernel
set_option maxRecDepth 20000 in
theorem ggX4_isAdmissible_X4_isSet : GoodIn wsX4_isAdmissible wsX4_isSet := goodIn_r _ [7, 8, 49, 50, 51, 52, 53, 54, 55, 56, 57, 58, 59, 60, 61, 62] (by decide +kernel) (by decide +kernel)
set_option maxRecDepth 20000 in
theorem gX4_isAdmissible_X4_isSet : GoodIn wsX4_isAdmissible (wsV RX4 98 RX4 yX4_isSet wsX4_isSet) := goodIn_app (goodIn_of _ (by decide +kernel)) ggX4_isAdmissible_X4_isSet
set_option maxRecDepth 20000 in
theorem ggX4_isAdmissible_X4_look : GoodIn wsX4_isAdmissible wsX4_look := goodIn_r _ [12, 8, 13, 14, 15, 16, 17, 6, 18, 19, 20, 21, 22, 2, 23, 24, 25, 26, 27, 28, 29, 30, 31, 32, 49, 50, 51, 52, 53, 54, 55, 56, 57, 58, 59, 60, 61, 62] (by decide +kernel) (by decide +kernel)
set_option maxRecDepth 20000 in
theorem gX4_isAdmissible_X4_look : GoodIn wsX4_isAdmissible (wsV RX4 101 RX4 yX4_look wsX4_look) := goodIn_app (goodIn_of _ (by decide +kernel)) ggX4_isAdmissible_X4_look
set_option maxRecDepth 20000 in
theorem ggX4_isAdmissible_X4_isAdmissibleSet : GoodIn wsX4_isAdmissible wsX4_isAdmissibleSet := goodIn_r _ [36, 37, 38, 39, 6, 40, 41, 42, 43, 44, 8, 14, 26, 27, 28, 45, 46, 47, 48, 2, 13, 49, 50, 51, 52, 53, 54, 55, 56, 57, 58, 59, 60, 61, 62] (by decide +kernel) (by decide +kernel)
set_option maxRecDepth 20000 in
theorem gX4_isAdmissible_X4_isAdmissibleSet : GoodIn wsX4_isAdmissible (wsV RX4 104 RX4 yX4_isAdmissibleSet wsX4_isAdmissibleSet) := goodIn_app (goodIn_of _ (by decide +kernel)) ggX4_isAdmissible_X4_isAdmissibleSet
theorem dX4_isAdmissible_0 : decode cX4_isAdmissible 0 = .ok (.aload_n 0, 1) := by decide +kernel
theorem dX4_isAdmissible_1 : decode cX4_isAdmissible 1 = .ok (.aload_n 0, 1) := by decide +kernel
theorem dX4_isAdmissible_2 : decode cX4_isAdmissible 2 = .ok (.iload_n 1, 1) := by decide +kernel
theorem dX4_isAdmissible_3 : decode cX4_isAdmissible 3 = .ok (.invokevirtual 98, 3) := by decide +kernel
theorem dX4_isAdmissible_6 : decode cX4_isAdmissible 6 = .ok (.ifCond .eq 7, 3) := by decide +kernel
theorem dX4_isAdmissible_9 : decode cX4_isAdmissible 9 = .ok (.iconst 0, 1) := by decide +kernel
theorem dX4_isAdmissible_10 : decode cX4_isAdmissible 10 = .ok (.goto 4, 3) := by decide +kernel
theorem dX4_isAdmissible_13 : decode cX4_isAdmissible 13 = .ok (.iconst 1, 1) := by decide +kernel
theorem dX4_isAdmissible_14 : decode cX4_isAdmissible 14 = .ok (.putfield 44, 3) := by decide +kernel
theorem dX4_isAdmissible_17 : decode cX4_isAdmissible 17 = .ok (.aload_n 0, 1) := by decide +kernel
theorem dX4_isAdmissible_18 : decode cX4_isAdmissible 18 = .ok (.invokevirtual 101, 3) := by decide +kernel
theorem dX4_isAdmissible_21 : decode cX4_isAdmissible 21 = .ok (.aload_n 0, 1) := by decide +kernel
theorem dX4_isAdmissible_22 : decode cX4_isAdmissible 22 = .ok (.getfield 44, 3) := by decide +kernel
theorem dX4_isAdmissible_25 : decode cX4_isAdmissible 25 = .ok (.ifCond .ne 20, 3) := by decide +kernel
theorem dX4_isAdmissible_28 : decode cX4_isAdmissible 28 = .ok (.aload_n 0, 1) := by decide +kernel
theorem dX4_isAdmissible_29 : decode cX4_isAdmissible 29 = .ok (.iload_n 1, 1) := by decide +kernel
theorem dX4_isAdmissible_30 : decode cX4_isAdmissible 30 = .ok (.aload_n 0, 1) := by decide +kernel
theorem dX4_isAdmissible_31 : decode cX4_isAdmissible 31 = .ok (.getfield 62, 3) := by decide +kernel
theorem dX4_isAdmissible_34 : decode cX4_isAdmissible 34 = .ok (.iand, 1) := by decide +kernel
theorem dX4_isAdmissible_35 : decode cX4_isAdmissible 35 = .ok (.invokevirtual 104, 3) := by decide +kernel
theorem dX4_isAdmissible_38 : decode cX4_isAdmissible 38 = .ok (.ifCond .eq 7, 3) := by decide +kernel
theorem dX4_isAdmissible_41 : decode cX4_isAdmissible 41 = .ok (.iconst 1, 1) := by decide +kernel
theorem dX4_isAdmissible_42 : decode cX4_isAdmissible 42 = .ok (.goto 4, 3) := by decide +kernel
theorem dX4_isAdmissible_45 : decode cX4_isAdmissible 45 = .ok (.iconst 0, 1) := by decide +kernel
theorem dX4_isAdmissible_46 : decode cX4_isAdmissible 46 = .ok (.ireturn, 1) := by decide +kernel
set_option maxRecDepth 20000 in
theorem ggX4_label_X4_isArgument : GoodIn wsX4_label wsX4_isArgument := goodIn_r _ [7, 8, 45, 46, 47, 48, 49, 50, 51, 52, 53, 54, 55, 56, 57, 58] (by decide +kernel) (by decide +kernel)
set_option maxRecDepth 20000 in
theorem gX4_label_X4_isArgument : GoodIn wsX4_label (wsV RX4 68 RX4 yX4_isArgument wsX4_isArgument) := goodIn_app (goodIn_of _ (by decide +kernel)) ggX4_label_X4_isArgument
set_option maxRecDepth 20000 in
theorem ggX4_label_X4_fail : GoodIn wsX4_label wsX4_fail := goodIn_r _ [12, 1, 45, 46, 47, 48, 49, 50, 51, 52, 53, 54, 55, 56, 57, 58] (by decide +kernel) (by decide +kernel)
set_option maxRecDepth 20000 in
theorem gX4_label_X4_fail : GoodIn wsX4_label (wsV RX4 58 RX4 yX4_fail wsX4_fail) := goodIn_app (goodIn_of _ (by decide +kernel)) ggX4_label_X4_fail
set_option maxRecDepth 20000 in
theorem ggX4_label_X4_isSet : GoodIn wsX4_label wsX4_isSet := goodIn_r _ [16, 8, 45, 46, 47, 48, 49, 50, 51, 52, 53, 54, 55, 56, 57, 58] (by decide +kernel) (by decide +kernel)
set_option maxRecDepth 20000 in
theorem gX4_label_X4_isSet : GoodIn wsX4_label (wsV RX4 98 RX4 yX4_isSet wsX4_isSet) := goodIn_app (goodIn_of _ (by decide +kernel)) ggX4_label_X4_isSet
set_option maxRecDepth 20000 in
theorem ggX4_label_X4_look : GoodIn wsX4_label wsX4_look := goodIn_r _ [20, 8, 21, 22, 23, 24, 25, 6, 26, 27, 28, 29, 30, 2, 31, 32, 33, 34, 35, 36, 37, 38, 39, 40, 45, 46, 47, 48, 49, 50, 51, 52, 53, 54, 55, 56, 57, 58] (by decide +kernel) (by decide +kernel)
set_option maxRecDepth 20000 in
theorem gX4_label_X4_look : GoodIn wsX4_label (wsV RX4 101 RX4 yX4_look wsX4_look) := goodIn_app (goodIn_of _ (by decide +kernel)) ggX4_label_X4_look
set_option maxRecDepth 20000 in
theorem ggX4_label_X4_has : GoodIn wsX4_label wsX4_has := goodIn_r _ [36] (by decide +kernel) (by decide +kernel)
set_option maxRecDepth 20000 in
theorem gX4_label_X4_has : GoodIn wsX4_label (va_wsS RX4 71 yX4_has wsX4_has) := goodIn_app (goodIn_of _ (by decide +kernel)) ggX4_label_X4_has
set_option maxRecDepth 20000 in
theorem ggX4_label_X4_hit : GoodIn wsX4_label wsX4_hit := goodIn_r _ [44, 8, 22, 34, 35, 6, 36, 45, 46, 47, 48, 49, 50, 51, 52, 53, 54, 55, 56, 57, 58] (by decide +kernel) (by decide +kernel)
set_option maxRecDepth 20000 in
theorem gX4_label_X4_hit : GoodIn wsX4_label (wsV RX4 89 RX4 yX4_hit wsX4_hit) := goodIn_app (goodIn_of _ (by decide +kernel)) ggX4_label_X4_hit
theorem dX4_label_0 : decode cX4_label 0 = .ok (.aload_n 0, 1) := by decide +kernel
theorem dX4_label_1 : decode cX4_label 1 = .ok (.iconst 0, 1) := by decide +kernel
theorem dX4_label_2 : decode cX4_label 2 = .ok (.putfield 44, 3) := by decide +kernel
theorem dX4_label_5 : decode cX4_label 5 = .ok (.aload_n 0, 1) := by decide +kernel
theorem dX4_label_6 : decode cX4_label 6 = .ok (.iload_n 1, 1) := by decide +kernel
theorem dX4_label_7 : decode cX4_label 7 = .ok (.invokevirtual 68, 3) := by decide +kernel
theorem dX4_label_10 : decode cX4_label 10 = .ok (.ifCond .ne 9, 3) := by decide +kernel
theorem dX4_label_13 : decode cX4_label 13 = .ok (.aload_n 0, 1) := by decide +kernel
theorem dX4_label_14 : decode cX4_label 14 = .ok (.iconst 1, 1) := by decide +kernel
theorem dX4_label_15 : decode cX4_label 15 = .ok (.invokevirtual 58, 3) := by decide +kernel
theorem dX4_label_18 : decode cX4_label 18 = .ok (.ireturn, 1) := by decide +kernel
theorem dX4_label_19 : decode cX4_label 19 = .ok (.aload_n 0, 1) := by decide +kernel
theorem dX4_label_20 : decode cX4_label 20 = .ok (.iload_n 2, 1) := by decide +kernel
theorem dX4_label_21 : decode cX4_label 21 = .ok (.invokevirtual 98, 3) := by decide +kernel
theorem dX4_label_24 : decode cX4_label 24 = .ok (.ifCond .ne 9, 3) := by decide +kernel
theorem dX4_label_27 : decode cX4_label 27 = .ok (.aload_n 0, 1) := by decide +kernel
theorem dX4_label_28 : decode cX4_label 28 = .ok (.iconst 2, 1) := by decide +kernel
theorem dX4_label_29 : decode cX4_label 29 = .ok (.invokevirtual 58, 3) := by decide +kernel
theorem dX4_label_32 : decode cX4_label 32 = .ok (.ireturn, 1) := by decide +kernel
theorem dX4_label_33 : decode cX4_label 33 = .ok (.aload_n 0, 1) := by decide +kernel
theorem dX4_label_34 : decode cX4_label 34 = .ok (.invokevirtual 101, 3) := by decide +kernel
theorem dX4_label_37 : decode cX4_label 37 = .ok (.aload_n 0, 1) := by decide +kernel
theorem dX4_label_38 : decode cX4_label 38 = .ok (.getfield 62, 3) := by decide +kernel
theorem dX4_label_41 : decode cX4_label 41 = .ok (.iload_n 1, 1) := by decide +kernel
theorem dX4_label_42 : decode cX4_label 42 = .ok (.invokestatic 71, 3) := by decide +kernel
theorem dX4_label_45 : decode cX4_label 45 = .ok (.ifCond .eq 42, 3) := by decide +kernel
theorem dX4_label_48 : decode cX4_label 48 = .ok (.iload_n 2, 1) := by decide +kernel
theorem dX4_label_49 : decode cX4_label 49 = .ok (.iload_n 1, 1) := by decide +kernel
theorem dX4_label_50 : decode cX4_label 50 = .ok (.invokestatic 71, 3) := by decide +kernel
theorem dX4_label_53 : decode cX4_label 53 = .ok (.ifCond .eq 7, 3) := by decide +kernel
theorem dX4_label_56 : decode cX4_label 56 = .ok (.iconst 1, 1) := by decide +kernel
theorem dX4_label_57 : decode cX4_label 57 = .ok (.goto 4, 3) := by decide +kernel
theorem dX4_label_60 : decode cX4_label 60 = .ok (.iconst 0, 1) := by decide +kernel
theorem dX4_label_61 : decode cX4_label 61 = .ok (.aload_n 0, 1) := by decide +kernel
theorem dX4_label_62 : decode cX4_label 62 = .ok (.iload_n 2, 1) := by decide +kernel
theorem dX4_label_63 : decode cX4_label 63 = .ok (.aload_n 0, 1) := by decide +kernel
theorem dX4_label_64 : decode cX4_label 64 = .ok (.getfield 62, 3) := by decide +kernel
theorem dX4_label_67 : decode cX4_label 67 = .ok (.iand, 1) := by decide +kernel
theorem dX4_label_68 : decode cX4_label 68 = .ok (.invokevirtual 89, 3) := by decide +kernel
theorem dX4_label_71 : decode cX4_label 71 = .ok (.iload_n 1, 1) := by decide +kernel
theorem dX4_label_72 : decode cX4_label 72 = .ok (.invokestatic 71, 3) := by decide +kernel
theorem dX4_label_75 : decode cX4_label 75 = .ok (.ifCond .eq 7, 3) := by decide +kernel
theorem dX4_label_78 : decode cX4_label 78 = .ok (.iconst 2, 1) := by decide +kernel
theorem dX4_label_79 : decode cX4_label 79 = .ok (.goto 4, 3) := by decide +kernel
theorem dX4_label_82 : decode cX4_label 82 = .ok (.iconst 0, 1) := by decide +kernel
theorem dX4_label_83 : decode cX4_label 83 = .ok (.iadd, 1) := by decide +kernel
theorem dX4_label_84 : decode cX4_label 84 = .ok (.goto 4, 3) := by decide +kernel
theorem dX4_label_87 : decode cX4_label 87 = .ok (.iconst 0, 1) := by decide +kernel
theorem dX4_label_88 : decode cX4_label 88 = .ok (.ireturn, 1) := by decide +kernel
set_option maxRecDepth 20000 in
theorem ggX4_repair_X4_isSet : GoodIn wsX4_repair wsX4_isSet := goodIn_r _ [11, 3, 56, 57, 58, 59, 60, 61, 62, 63, 64, 65, 66, 67, 68, 69] (by decide +kernel) (by decide +kernel)
set_option maxRecDepth 20000 in
theorem gX4_repair_X4_isSet : GoodIn wsX4_repair (wsV RX4 98 RX4 yX4_isSet wsX4_isSet) := goodIn_app (goodIn_of _ (by decide +kernel)) ggX4_repair_X4_isSet
set_option maxRecDepth 20000 in
theorem ggX4_repair_X4_fail : GoodIn wsX4_repair wsX4_fail := goodIn_r _ [15, 1, 56, 57, 58, 59, 60, 61, 62, 63, 64, 65, 66, 67, 68, 69] (by decide +kernel) (by decide +kernel)
set_option maxRecDepth 20000 in
theorem gX4_repair_X4_fail : GoodIn wsX4_repair (wsV RX4 58 RX4 yX4_fail wsX4_fail) := goodIn_app (goodIn_of _ (by decide +kernel)) ggX4_repair_X4_fail
set_option maxRecDepth 20000 in
theorem ggX4_repair_X4_look : GoodIn wsX4_repair wsX4_look := goodIn_r _ [19, 3, 4, 5, 20, 21, 22, 10, 23, 24, 25, 26, 27, 2, 28, 6, 29, 30, 31, 32, 33, 34, 35, 36, 56, 57, 58, 59, 60, 61, 62, 63, 64, 65, 66, 67, 68, 69] (by decide +kernel) (by decide +kernel)
set_option maxRecDepth 20000 in
theorem gX4_repair_X4_look : GoodIn wsX4_repair (wsV RX4 101 RX4 yX4_look wsX4_look) := goodIn_app (goodIn_of _ (by decide +kernel)) ggX4_repair_X4_look
set_option maxRecDepth 20000 in
theorem ggX4_repair_X4_isFreeSet : GoodIn wsX4_repair wsX4_isFreeSet := goodIn_r _ [40, 41, 42, 43, 10, 44, 3, 5, 30, 31, 32, 56, 57, 58, 59, 60, 61, 62, 63, 64, 65, 66, 67, 68, 69] (by decide +kernel) (by decide +kernel)
set_option maxRecDepth 20000 in
theorem gX4_repair_X4_isFreeSet : GoodIn wsX4_repair (wsV RX4 92 RX4 yX4_isFreeSet wsX4_isFreeSet) := goodIn_app (goodIn_of _ (by decide +kernel)) ggX4_repair_X4_isFreeSet
set_option maxRecDepth 20000 in
theorem ggX4_repair_X4_has : GoodIn wsX4_repair wsX4_has := goodIn_r _ [32] (by decide +kernel) (by decide +kernel)
set_option maxRecDepth 20000 in
theorem gX4_repair_X4_has : GoodIn wsX4_repair (va_wsS RX4 71 yX4_has wsX4_has) := goodIn_app (goodIn_of _ (by decide +kernel)) ggX4_repair_X4_has
set_option maxRecDepth 20000 in
theorem ggX4_repair_J6_bitCount_0f7a4 : GoodIn wsX4_repair wsJ6_bitCount_0f7a4 := goodIn_r _ [48, 49, 50, 51] (by decide +kernel) (by decide +kernel)
set_option maxRecDepth 20000 in
theorem gX4_repair_J6_bitCount_0f7a4 : GoodIn wsX4_repair (va_wsS RX4 84 yJ6_bitCount_0f7a4 wsJ6_bitCount_0f7a4) := goodIn_app (goodIn_of _ (by decide +kernel)) ggX4_repair_J6_bitCount_0f7a4
set_option maxRecDepth 20000 in
theorem ggX4_repair_X4_defendedBy : GoodIn wsX4_repair wsX4_defendedBy := goodIn_r _ [55, 3, 2, 4, 41, 42, 43, 10, 44, 5, 30, 31, 32, 56, 57, 58, 59, 60, 61, 62, 63, 64, 65, 66, 67, 68, 69] (by decide +kernel) (by decide +kernel)
set_option maxRecDepth 20000 in
theorem gX4_repair_X4_defendedBy : GoodIn wsX4_repair (wsV RX4 95 RX4 yX4_defendedBy wsX4_defendedBy) := goodIn_app (goodIn_of _ (by decide +kernel)) ggX4_repair_X4_defendedBy
theorem dX4_repair_0 : decode cX4_repair 0 = .ok (.aload_n 0, 1) := by decide +kernel
theorem dX4_repair_1 : decode cX4_repair 1 = .ok (.iconst 0, 1) := by decide +kernel
theorem dX4_repair_2 : decode cX4_repair 2 = .ok (.putfield 44, 3) := by decide +kernel
theorem dX4_repair_5 : decode cX4_repair 5 = .ok (.aload_n 0, 1) := by decide +kernel
theorem dX4_repair_6 : decode cX4_repair 6 = .ok (.iload_n 1, 1) := by decide +kernel
theorem dX4_repair_7 : decode cX4_repair 7 = .ok (.invokevirtual 98, 3) := by decide +kernel
theorem dX4_repair_10 : decode cX4_repair 10 = .ok (.ifCond .ne 9, 3) := by decide +kernel
theorem dX4_repair_13 : decode cX4_repair 13 = .ok (.aload_n 0, 1) := by decide +kernel
theorem dX4_repair_14 : decode cX4_repair 14 = .ok (.iconst 1, 1) := by decide +kernel
theorem dX4_repair_15 : decode cX4_repair 15 = .ok (.invokevirtual 58, 3) := by decide +kernel
theorem dX4_repair_18 : decode cX4_repair 18 = .ok (.ireturn, 1) := by decide +kernel
theorem dX4_repair_19 : decode cX4_repair 19 = .ok (.aload_n 0, 1) := by decide +kernel
theorem dX4_repair_20 : decode cX4_repair 20 = .ok (.invokevirtual 101, 3) := by decide +kernel
theorem dX4_repair_23 : decode cX4_repair 23 = .ok (.iload_n 1, 1) := by decide +kernel
theorem dX4_repair_24 : decode cX4_repair 24 = .ok (.aload_n 0, 1) := by decide +kernel
theorem dX4_repair_25 : decode cX4_repair 25 = .ok (.getfield 62, 3) := by decide +kernel
theorem dX4_repair_28 : decode cX4_repair 28 = .ok (.iand, 1) := by decide +kernel
theorem dX4_repair_29 : decode cX4_repair 29 = .ok (.istore_n 2, 1) := by decide +kernel
theorem dX4_repair_30 : decode cX4_repair 30 = .ok (.aload_n 0, 1) := by decide +kernel
theorem dX4_repair_31 : decode cX4_repair 31 = .ok (.iload_n 2, 1) := by decide +kernel
theorem dX4_repair_32 : decode cX4_repair 32 = .ok (.invokevirtual 92, 3) := by decide +kernel
theorem dX4_repair_35 : decode cX4_repair 35 = .ok (.ifCond .ne 121, 3) := by decide +kernel
theorem dX4_repair_38 : decode cX4_repair 38 = .ok (.iconst (-1), 1) := by decide +kernel
theorem dX4_repair_39 : decode cX4_repair 39 = .ok (.istore_n 3, 1) := by decide +kernel
theorem dX4_repair_40 : decode cX4_repair 40 = .ok (.iconst 0, 1) := by decide +kernel
theorem dX4_repair_41 : decode cX4_repair 41 = .ok (.istore 4, 2) := by decide +kernel
theorem dX4_repair_43 : decode cX4_repair 43 = .ok (.iconst 0, 1) := by decide +kernel
theorem dX4_repair_44 : decode cX4_repair 44 = .ok (.istore 5, 2) := by decide +kernel
theorem dX4_repair_46 : decode cX4_repair 46 = .ok (.iload 5, 2) := by decide +kernel
theorem dX4_repair_48 : decode cX4_repair 48 = .ok (.aload_n 0, 1) := by decide +kernel
theorem dX4_repair_49 : decode cX4_repair 49 = .ok (.getfield 47, 3) := by decide +kernel
theorem dX4_repair_52 : decode cX4_repair 52 = .ok (.if_icmp .ge 93, 3) := by decide +kernel
theorem dX4_repair_55 : decode cX4_repair 55 = .ok (.iload_n 2, 1) := by decide +kernel
theorem dX4_repair_56 : decode cX4_repair 56 = .ok (.iload 5, 2) := by decide +kernel
theorem dX4_repair_58 : decode cX4_repair 58 = .ok (.invokestatic 71, 3) := by decide +kernel
theorem dX4_repair_61 : decode cX4_repair 61 = .ok (.ifCond .ne 6, 3) := by decide +kernel
theorem dX4_repair_64 : decode cX4_repair 64 = .ok (.goto 75, 3) := by decide +kernel
theorem dX4_repair_67 : decode cX4_repair 67 = .ok (.aload_n 0, 1) := by decide +kernel
theorem dX4_repair_68 : decode cX4_repair 68 = .ok (.getfield 26, 3) := by decide +kernel
theorem dX4_repair_71 : decode cX4_repair 71 = .ok (.iload 5, 2) := by decide +kernel
theorem dX4_repair_73 : decode cX4_repair 73 = .ok (.iaload, 1) := by decide +kernel
theorem dX4_repair_74 : decode cX4_repair 74 = .ok (.iload_n 2, 1) := by decide +kernel
theorem dX4_repair_75 : decode cX4_repair 75 = .ok (.iand, 1) := by decide +kernel
theorem dX4_repair_76 : decode cX4_repair 76 = .ok (.invokestatic 84, 3) := by decide +kernel
theorem dX4_repair_79 : decode cX4_repair 79 = .ok (.aload_n 0, 1) := by decide +kernel
theorem dX4_repair_80 : decode cX4_repair 80 = .ok (.getfield 29, 3) := by decide +kernel
theorem dX4_repair_83 : decode cX4_repair 83 = .ok (.iload 5, 2) := by decide +kernel
theorem dX4_repair_85 : decode cX4_repair 85 = .ok (.iaload, 1) := by decide +kernel
theorem dX4_repair_86 : decode cX4_repair 86 = .ok (.iload_n 2, 1) := by decide +kernel
theorem dX4_repair_87 : decode cX4_repair 87 = .ok (.iand, 1) := by decide +kernel
theorem dX4_repair_88 : decode cX4_repair 88 = .ok (.invokestatic 84, 3) := by decide +kernel
theorem dX4_repair_91 : decode cX4_repair 91 = .ok (.iadd, 1) := by decide +kernel
theorem dX4_repair_92 : decode cX4_repair 92 = .ok (.istore 6, 2) := by decide +kernel
theorem dX4_repair_94 : decode cX4_repair 94 = .ok (.iload_n 3, 1) := by decide +kernel
theorem dX4_repair_95 : decode cX4_repair 95 = .ok (.iconst (-1), 1) := by decide +kernel
theorem dX4_repair_96 : decode cX4_repair 96 = .ok (.if_icmp .eq 36, 3) := by decide +kernel
theorem dX4_repair_99 : decode cX4_repair 99 = .ok (.iload 6, 2) := by decide +kernel
theorem dX4_repair_101 : decode cX4_repair 101 = .ok (.iload 4, 2) := by decide +kernel
theorem dX4_repair_103 : decode cX4_repair 103 = .ok (.if_icmp .lt 36, 3) := by decide +kernel
theorem dX4_repair_106 : decode cX4_repair 106 = .ok (.iload 6, 2) := by decide +kernel
theorem dX4_repair_108 : decode cX4_repair 108 = .ok (.iload 4, 2) := by decide +kernel
theorem dX4_repair_110 : decode cX4_repair 110 = .ok (.if_icmp .ne 22, 3) := by decide +kernel
theorem dX4_repair_113 : decode cX4_repair 113 = .ok (.aload_n 0, 1) := by decide +kernel
theorem dX4_repair_114 : decode cX4_repair 114 = .ok (.getfield 9, 3) := by decide +kernel
theorem dX4_repair_117 : decode cX4_repair 117 = .ok (.iload 5, 2) := by decide +kernel
theorem dX4_repair_119 : decode cX4_repair 119 = .ok (.iaload, 1) := by decide +kernel
theorem dX4_repair_120 : decode cX4_repair 120 = .ok (.aload_n 0, 1) := by decide +kernel
theorem dX4_repair_121 : decode cX4_repair 121 = .ok (.getfield 9, 3) := by decide +kernel
theorem dX4_repair_124 : decode cX4_repair 124 = .ok (.iload_n 3, 1) := by decide +kernel
theorem dX4_repair_125 : decode cX4_repair 125 = .ok (.iaload, 1) := by decide +kernel
theorem dX4_repair_126 : decode cX4_repair 126 = .ok (.if_icmp .lt 6, 3) := by decide +kernel
theorem dX4_repair_129 : decode cX4_repair 129 = .ok (.goto 10, 3) := by decide +kernel
theorem dX4_repair_132 : decode cX4_repair 132 = .ok (.iload 5, 2) := by decide +kernel
theorem dX4_repair_134 : decode cX4_repair 134 = .ok (.istore_n 3, 1) := by decide +kernel
theorem dX4_repair_135 : decode cX4_repair 135 = .ok (.iload 6, 2) := by decide +kernel
theorem dX4_repair_137 : decode cX4_repair 137 = .ok (.istore 4, 2) := by decide +kernel
theorem dX4_repair_139 : decode cX4_repair 139 = .ok (.iinc 5 1, 3) := by decide +kernel
theorem dX4_repair_142 : decode cX4_repair 142 = .ok (.goto (-96), 3) := by decide +kernel
theorem dX4_repair_145 : decode cX4_repair 145 = .ok (.iload_n 2, 1) := by decide +kernel
theorem dX4_repair_146 : decode cX4_repair 146 = .ok (.iconst 1, 1) := by decide +kernel
theorem dX4_repair_147 : decode cX4_repair 147 = .ok (.iload_n 3, 1) := by decide +kernel
theorem dX4_repair_148 : decode cX4_repair 148 = .ok (.ishl, 1) := by decide +kernel
theorem dX4_repair_149 : decode cX4_repair 149 = .ok (.iconst (-1), 1) := by decide +kernel
theorem dX4_repair_150 : decode cX4_repair 150 = .ok (.ixor, 1) := by decide +kernel
theorem dX4_repair_151 : decode cX4_repair 151 = .ok (.iand, 1) := by decide +kernel
theorem dX4_repair_152 : decode cX4_repair 152 = .ok (.istore_n 2, 1) := by decide +kernel
theorem dX4_repair_153 : decode cX4_repair 153 = .ok (.goto (-123), 3) := by decide +kernel
theorem dX4_repair_156 : decode cX4_repair 156 = .ok (.iload_n 2, 1) := by decide +kernel
theorem dX4_repair_157 : decode cX4_repair 157 = .ok (.aload_n 0, 1) := by decide +kernel
theorem dX4_repair_158 : decode cX4_repair 158 = .ok (.iload_n 2, 1) := by decide +kernel
theorem dX4_repair_159 : decode cX4_repair 159 = .ok (.invokevirtual 95, 3) := by decide +kernel
theorem dX4_repair_162 : decode cX4_repair 162 = .ok (.iconst (-1), 1) := by decide +kernel
theorem dX4_repair_163 : decode cX4_repair 163 = .ok (.ixor, 1) := by decide +kernel
theorem dX4_repair_164 : decode cX4_repair 164 = .ok (.iand, 1) := by decide +kernel
theorem dX4_repair_165 : decode cX4_repair 165 = .ok (.ifCond .eq 14, 3) := by decide +kernel
theorem dX4_repair_168 : decode cX4_repair 168 = .ok (.iload_n 2, 1) := by decide +kernel
theorem dX4_repair_169 : decode cX4_repair 169 = .ok (.aload_n 0, 1) := by decide +kernel
theorem dX4_repair_170 : decode cX4_repair 170 = .ok (.iload_n 2, 1) := by decide +kernel
theorem dX4_repair_171 : decode cX4_repair 171 = .ok (.invokevirtual 95, 3) := by decide +kernel
theorem dX4_repair_174 : decode cX4_repair 174 = .ok (.iand, 1) := by decide +kernel
theorem dX4_repair_175 : decode cX4_repair 175 = .ok (.istore_n 2, 1) := by decide +kernel
theorem dX4_repair_176 : decode cX4_repair 176 = .ok (.goto (-20), 3) := by decide +kernel
theorem dX4_repair_179 : decode cX4_repair 179 = .ok (.iload_n 2, 1) := by decide +kernel
theorem dX4_repair_180 : decode cX4_repair 180 = .ok (.ireturn, 1) := by decide +kernel
set_option maxRecDepth 20000 in
theorem ggX4_raise_X4_has : GoodIn wsX4_raise wsX4_has := goodIn_r _ [7] (by decide +kernel) (by decide +kernel)
set_option maxRecDepth 20000 in
theorem gX4_raise_X4_has : GoodIn wsX4_raise (va_wsS RX4 71 yX4_has wsX4_has) := goodIn_app (goodIn_of _ (by decide +kernel)) ggX4_raise_X4_has
theorem dX4_raise_0 : decode cX4_raise 0 = .ok (.iconst 1, 1) := by decide +kernel
theorem dX4_raise_1 : decode cX4_raise 1 = .ok (.aload_n 0, 1) := by decide +kernel
theorem dX4_raise_2 : decode cX4_raise 2 = .ok (.getfield 47, 3) := by decide +kernel
theorem dX4_raise_5 : decode cX4_raise 5 = .ok (.ishl, 1) := by decide +kernel
theorem dX4_raise_6 : decode cX4_raise 6 = .ok (.iconst 1, 1) := by decide +kernel
theorem dX4_raise_7 : decode cX4_raise 7 = .ok (.isub, 1) := by decide +kernel
theorem dX4_raise_8 : decode cX4_raise 8 = .ok (.istore_n 1, 1) := by decide +kernel
theorem dX4_raise_9 : decode cX4_raise 9 = .ok (.iload_n 1, 1) := by decide +kernel
theorem dX4_raise_10 : decode cX4_raise 10 = .ok (.ifCond .lt 86, 3) := by decide +kernel
theorem dX4_raise_13 : decode cX4_raise 13 = .ok (.aload_n 0, 1) := by decide +kernel
theorem dX4_raise_14 : decode cX4_raise 14 = .ok (.getfield 36, 3) := by decide +kernel
theorem dX4_raise_17 : decode cX4_raise 17 = .ok (.iload_n 1, 1) := by decide +kernel
theorem dX4_raise_18 : decode cX4_raise 18 = .ok (.iconst 0, 1) := by decide +kernel
theorem dX4_raise_19 : decode cX4_raise 19 = .ok (.bastore, 1) := by decide +kernel
theorem dX4_raise_20 : decode cX4_raise 20 = .ok (.iconst 0, 1) := by decide +kernel
theorem dX4_raise_21 : decode cX4_raise 21 = .ok (.istore_n 2, 1) := by decide +kernel
theorem dX4_raise_22 : decode cX4_raise 22 = .ok (.iload_n 2, 1) := by decide +kernel
theorem dX4_raise_23 : decode cX4_raise 23 = .ok (.aload_n 0, 1) := by decide +kernel
theorem dX4_raise_24 : decode cX4_raise 24 = .ok (.getfield 47, 3) := by decide +kernel
theorem dX4_raise_27 : decode cX4_raise 27 = .ok (.if_icmp .ge 63, 3) := by decide +kernel
theorem dX4_raise_30 : decode cX4_raise 30 = .ok (.iload_n 1, 1) := by decide +kernel
theorem dX4_raise_31 : decode cX4_raise 31 = .ok (.iload_n 2, 1) := by decide +kernel
theorem dX4_raise_32 : decode cX4_raise 32 = .ok (.invokestatic 71, 3) := by decide +kernel
theorem dX4_raise_35 : decode cX4_raise 35 = .ok (.ifCond .ne 49, 3) := by decide +kernel
theorem dX4_raise_38 : decode cX4_raise 38 = .ok (.aload_n 0, 1) := by decide +kernel
theorem dX4_raise_39 : decode cX4_raise 39 = .ok (.getfield 36, 3) := by decide +kernel
theorem dX4_raise_42 : decode cX4_raise 42 = .ok (.iload_n 1, 1) := by decide +kernel
theorem dX4_raise_43 : decode cX4_raise 43 = .ok (.aload_n 0, 1) := by decide +kernel
theorem dX4_raise_44 : decode cX4_raise 44 = .ok (.getfield 36, 3) := by decide +kernel
theorem dX4_raise_47 : decode cX4_raise 47 = .ok (.iload_n 1, 1) := by decide +kernel
theorem dX4_raise_48 : decode cX4_raise 48 = .ok (.baload, 1) := by decide +kernel
theorem dX4_raise_49 : decode cX4_raise 49 = .ok (.ifCond .ne 29, 3) := by decide +kernel
theorem dX4_raise_52 : decode cX4_raise 52 = .ok (.aload_n 0, 1) := by decide +kernel
theorem dX4_raise_53 : decode cX4_raise 53 = .ok (.getfield 32, 3) := by decide +kernel
theorem dX4_raise_56 : decode cX4_raise 56 = .ok (.iload_n 1, 1) := by decide +kernel
theorem dX4_raise_57 : decode cX4_raise 57 = .ok (.iconst 1, 1) := by decide +kernel
theorem dX4_raise_58 : decode cX4_raise 58 = .ok (.iload_n 2, 1) := by decide +kernel
theorem dX4_raise_59 : decode cX4_raise 59 = .ok (.ishl, 1) := by decide +kernel
theorem dX4_raise_60 : decode cX4_raise 60 = .ok (.ior, 1) := by decide +kernel
theorem dX4_raise_61 : decode cX4_raise 61 = .ok (.baload, 1) := by decide +kernel
theorem dX4_raise_62 : decode cX4_raise 62 = .ok (.ifCond .ne 16, 3) := by decide +kernel
theorem dX4_raise_65 : decode cX4_raise 65 = .ok (.aload_n 0, 1) := by decide +kernel
theorem dX4_raise_66 : decode cX4_raise 66 = .ok (.getfield 36, 3) := by decide +kernel
theorem dX4_raise_69 : decode cX4_raise 69 = .ok (.iload_n 1, 1) := by decide +kernel
theorem dX4_raise_70 : decode cX4_raise 70 = .ok (.iconst 1, 1) := by decide +kernel
theorem dX4_raise_71 : decode cX4_raise 71 = .ok (.iload_n 2, 1) := by decide +kernel
theorem dX4_raise_72 : decode cX4_raise 72 = .ok (.ishl, 1) := by decide +kernel
theorem dX4_raise_73 : decode cX4_raise 73 = .ok (.ior, 1) := by decide +kernel
theorem dX4_raise_74 : decode cX4_raise 74 = .ok (.baload, 1) := by decide +kernel
theorem dX4_raise_75 : decode cX4_raise 75 = .ok (.ifCond .eq 7, 3) := by decide +kernel
theorem dX4_raise_78 : decode cX4_raise 78 = .ok (.iconst 1, 1) := by decide +kernel
theorem dX4_raise_79 : decode cX4_raise 79 = .ok (.goto 4, 3) := by decide +kernel
theorem dX4_raise_82 : decode cX4_raise 82 = .ok (.iconst 0, 1) := by decide +kernel
theorem dX4_raise_83 : decode cX4_raise 83 = .ok (.bastore, 1) := by decide +kernel
theorem dX4_raise_84 : decode cX4_raise 84 = .ok (.iinc 2 1, 3) := by decide +kernel
theorem dX4_raise_87 : decode cX4_raise 87 = .ok (.goto (-65), 3) := by decide +kernel
theorem dX4_raise_90 : decode cX4_raise 90 = .ok (.iinc 1 (-1), 3) := by decide +kernel
theorem dX4_raise_93 : decode cX4_raise 93 = .ok (.goto (-84), 3) := by decide +kernel
theorem dX4_raise_96 : decode cX4_raise 96 = .ok (.return_, 1) := by decide +kernel
theorem dX4_put__0 : decode cX4_put_ 0 = .ok (.aload_n 0, 1) := by decide +kernel
theorem dX4_put__1 : decode cX4_put_ 1 = .ok (.getfield 23, 3) := by decide +kernel
theorem dX4_put__4 : decode cX4_put_ 4 = .ok (.sipush 4096, 3) := by decide +kernel
theorem dX4_put__7 : decode cX4_put_ 7 = .ok (.iload_n 1, 1) := by decide +kernel
theorem dX4_put__8 : decode cX4_put_ 8 = .ok (.imul, 1) := by decide +kernel
theorem dX4_put__9 : decode cX4_put_ 9 = .ok (.aload_n 0, 1) := by decide +kernel
theorem dX4_put__10 : decode cX4_put_ 10 = .ok (.getfield 20, 3) := by decide +kernel
theorem dX4_put__13 : decode cX4_put_ 13 = .ok (.iload_n 1, 1) := by decide +kernel
theorem dX4_put__14 : decode cX4_put_ 14 = .ok (.iaload, 1) := by decide +kernel
theorem dX4_put__15 : decode cX4_put_ 15 = .ok (.iadd, 1) := by decide +kernel
theorem dX4_put__16 : decode cX4_put_ 16 = .ok (.iload_n 2, 1) := by decide +kernel
theorem dX4_put__17 : decode cX4_put_ 17 = .ok (.iastore, 1) := by decide +kernel
theorem dX4_put__18 : decode cX4_put_ 18 = .ok (.aload_n 0, 1) := by decide +kernel
theorem dX4_put__19 : decode cX4_put_ 19 = .ok (.getfield 20, 3) := by decide +kernel
theorem dX4_put__22 : decode cX4_put_ 22 = .ok (.iload_n 1, 1) := by decide +kernel
theorem dX4_put__23 : decode cX4_put_ 23 = .ok (.dup2, 1) := by decide +kernel
theorem dX4_put__24 : decode cX4_put_ 24 = .ok (.iaload, 1) := by decide +kernel
theorem dX4_put__25 : decode cX4_put_ 25 = .ok (.iconst 1, 1) := by decide +kernel
theorem dX4_put__26 : decode cX4_put_ 26 = .ok (.iadd, 1) := by decide +kernel
theorem dX4_put__27 : decode cX4_put_ 27 = .ok (.iastore, 1) := by decide +kernel
theorem dX4_put__28 : decode cX4_put_ 28 = .ok (.return_, 1) := by decide +kernel
set_option maxRecDepth 20000 in
theorem ggX4_findRanges_X4_isAdmissibleSet : GoodIn wsX4_findRanges wsX4_isAdmissibleSet := goodIn_r _ [9, 10, 11, 12, 8, 13, 14, 15, 16, 17, 1, 18, 19, 20, 21, 22, 23, 24, 25, 3, 26, 37, 38, 39, 40, 41, 42, 43, 44, 45, 46, 47, 48, 49, 50] (by decide +kernel) (by decide +kernel)
set_option maxRecDepth 20000 in
theorem gX4_findRanges_X4_isAdmissibleSet : GoodIn wsX4_findRanges (wsV RX4 104 RX4 yX4_isAdmissibleSet wsX4_isAdmissibleSet) := goodIn_app (goodIn_of _ (by decide +kernel)) ggX4_findRanges_X4_isAdmissibleSet
set_option maxRecDepth 20000 in
theorem ggX4_findRanges_X4_isFreeSet : GoodIn wsX4_findRanges wsX4_isFreeSet := goodIn_r _ [13, 14, 15, 16, 8, 17, 1, 18, 19, 20, 21, 37, 38, 39, 40, 41, 42, 43, 44, 45, 46, 47, 48, 49, 50] (by decide +kernel) (by decide +kernel)
set_option maxRecDepth 20000 in
theorem gX4_findRanges_X4_isFreeSet : GoodIn wsX4_findRanges (wsV RX4 92 RX4 yX4_isFreeSet wsX4_isFreeSet) := goodIn_app (goodIn_of _ (by decide +kernel)) ggX4_findRanges_X4_isFreeSet
set_option maxRecDepth 20000 in
theorem ggX4_findRanges_X4_hit : GoodIn wsX4_findRanges wsX4_hit := goodIn_r _ [17, 1, 18, 19, 20, 8, 21, 37, 38, 39, 40, 41, 42, 43, 44, 45, 46, 47, 48, 49, 50] (by decide +kernel) (by decide +kernel)
set_option maxRecDepth 20000 in
theorem gX4_findRanges_X4_hit : GoodIn wsX4_findRanges (wsV RX4 89 RX4 yX4_hit wsX4_hit) := goodIn_app (goodIn_of _ (by decide +kernel)) ggX4_findRanges_X4_hit
set_option maxRecDepth 20000 in
theorem ggX4_findRanges_X4_raise : GoodIn wsX4_findRanges wsX4_raise := goodIn_r _ [30, 1, 4, 2, 19, 20, 8, 21, 37, 38, 39, 40, 41, 42, 43, 44, 45, 46, 47, 48, 49, 50] (by decide +kernel) (by decide +kernel)
set_option maxRecDepth 20000 in
theorem gX4_findRanges_X4_raise : GoodIn wsX4_findRanges (wsV RX4 107 RX4 yX4_raise wsX4_raise) := goodIn_app (goodIn_of _ (by decide +kernel)) ggX4_findRanges_X4_raise
set_option maxRecDepth 20000 in
theorem ggX4_findRanges_X4_put_ : GoodIn wsX4_findRanges wsX4_put_ := goodIn_r _ [34, 35, 36, 37, 38, 39, 40, 41, 42, 43, 44, 45, 46, 47, 48, 49, 50] (by decide +kernel) (by decide +kernel)
set_option maxRecDepth 20000 in
theorem gX4_findRanges_X4_put_ : GoodIn wsX4_findRanges (wsV RX4 110 RX4 yX4_put_ wsX4_put_) := goodIn_app (goodIn_of _ (by decide +kernel)) ggX4_findRanges_X4_put_
theorem dX4_findRanges_0 : decode cX4_findRanges 0 = .ok (.iconst 0, 1) := by decide +kernel
theorem dX4_findRanges_1 : decode cX4_findRanges 1 = .ok (.istore_n 3, 1) := by decide +kernel
theorem dX4_findRanges_2 : decode cX4_findRanges 2 = .ok (.iload_n 3, 1) := by decide +kernel
theorem dX4_findRanges_3 : decode cX4_findRanges 3 = .ok (.iconst 1, 1) := by decide +kernel
theorem dX4_findRanges_4 : decode cX4_findRanges 4 = .ok (.aload_n 0, 1) := by decide +kernel
theorem dX4_findRanges_5 : decode cX4_findRanges 5 = .ok (.getfield 47, 3) := by decide +kernel
theorem dX4_findRanges_8 : decode cX4_findRanges 8 = .ok (.ishl, 1) := by decide +kernel
theorem dX4_findRanges_9 : decode cX4_findRanges 9 = .ok (.if_icmp .ge 16, 3) := by decide +kernel
theorem dX4_findRanges_12 : decode cX4_findRanges 12 = .ok (.aload_n 0, 1) := by decide +kernel
theorem dX4_findRanges_13 : decode cX4_findRanges 13 = .ok (.getfield 32, 3) := by decide +kernel
theorem dX4_findRanges_16 : decode cX4_findRanges 16 = .ok (.iload_n 3, 1) := by decide +kernel
theorem dX4_findRanges_17 : decode cX4_findRanges 17 = .ok (.iconst 0, 1) := by decide +kernel
theorem dX4_findRanges_18 : decode cX4_findRanges 18 = .ok (.bastore, 1) := by decide +kernel
theorem dX4_findRanges_19 : decode cX4_findRanges 19 = .ok (.iinc 3 1, 3) := by decide +kernel
theorem dX4_findRanges_22 : decode cX4_findRanges 22 = .ok (.goto (-20), 3) := by decide +kernel
theorem dX4_findRanges_25 : decode cX4_findRanges 25 = .ok (.iconst 0, 1) := by decide +kernel
theorem dX4_findRanges_26 : decode cX4_findRanges 26 = .ok (.istore_n 3, 1) := by decide +kernel
theorem dX4_findRanges_27 : decode cX4_findRanges 27 = .ok (.iload_n 3, 1) := by decide +kernel
theorem dX4_findRanges_28 : decode cX4_findRanges 28 = .ok (.iconst 1, 1) := by decide +kernel
theorem dX4_findRanges_29 : decode cX4_findRanges 29 = .ok (.aload_n 0, 1) := by decide +kernel
theorem dX4_findRanges_30 : decode cX4_findRanges 30 = .ok (.getfield 47, 3) := by decide +kernel
theorem dX4_findRanges_33 : decode cX4_findRanges 33 = .ok (.ishl, 1) := by decide +kernel
theorem dX4_findRanges_34 : decode cX4_findRanges 34 = .ok (.if_icmp .ge 56, 3) := by decide +kernel
theorem dX4_findRanges_37 : decode cX4_findRanges 37 = .ok (.iload_n 3, 1) := by decide +kernel
theorem dX4_findRanges_38 : decode cX4_findRanges 38 = .ok (.aload_n 0, 1) := by decide +kernel
theorem dX4_findRanges_39 : decode cX4_findRanges 39 = .ok (.getfield 62, 3) := by decide +kernel
theorem dX4_findRanges_42 : decode cX4_findRanges 42 = .ok (.iconst (-1), 1) := by decide +kernel
theorem dX4_findRanges_43 : decode cX4_findRanges 43 = .ok (.ixor, 1) := by decide +kernel
theorem dX4_findRanges_44 : decode cX4_findRanges 44 = .ok (.iand, 1) := by decide +kernel
theorem dX4_findRanges_45 : decode cX4_findRanges 45 = .ok (.ifCond .ne 39, 3) := by decide +kernel
theorem dX4_findRanges_48 : decode cX4_findRanges 48 = .ok (.iload_n 2, 1) := by decide +kernel
theorem dX4_findRanges_49 : decode cX4_findRanges 49 = .ok (.ifCond .eq 14, 3) := by decide +kernel
theorem dX4_findRanges_52 : decode cX4_findRanges 52 = .ok (.aload_n 0, 1) := by decide +kernel
theorem dX4_findRanges_53 : decode cX4_findRanges 53 = .ok (.iload_n 3, 1) := by decide +kernel
theorem dX4_findRanges_54 : decode cX4_findRanges 54 = .ok (.invokevirtual 104, 3) := by decide +kernel
theorem dX4_findRanges_57 : decode cX4_findRanges 57 = .ok (.ifCond .eq 27, 3) := by decide +kernel
theorem dX4_findRanges_60 : decode cX4_findRanges 60 = .ok (.goto 11, 3) := by decide +kernel
theorem dX4_findRanges_63 : decode cX4_findRanges 63 = .ok (.aload_n 0, 1) := by decide +kernel
theorem dX4_findRanges_64 : decode cX4_findRanges 64 = .ok (.iload_n 3, 1) := by decide +kernel
theorem dX4_findRanges_65 : decode cX4_findRanges 65 = .ok (.invokevirtual 92, 3) := by decide +kernel
theorem dX4_findRanges_68 : decode cX4_findRanges 68 = .ok (.ifCond .eq 16, 3) := by decide +kernel
theorem dX4_findRanges_71 : decode cX4_findRanges 71 = .ok (.aload_n 0, 1) := by decide +kernel
theorem dX4_findRanges_72 : decode cX4_findRanges 72 = .ok (.getfield 32, 3) := by decide +kernel
theorem dX4_findRanges_75 : decode cX4_findRanges 75 = .ok (.iload_n 3, 1) := by decide +kernel
theorem dX4_findRanges_76 : decode cX4_findRanges 76 = .ok (.aload_n 0, 1) := by decide +kernel
theorem dX4_findRanges_77 : decode cX4_findRanges 77 = .ok (.iload_n 3, 1) := by decide +kernel
theorem dX4_findRanges_78 : decode cX4_findRanges 78 = .ok (.invokevirtual 89, 3) := by decide +kernel
theorem dX4_findRanges_81 : decode cX4_findRanges 81 = .ok (.ior, 1) := by decide +kernel
theorem dX4_findRanges_82 : decode cX4_findRanges 82 = .ok (.iconst 1, 1) := by decide +kernel
theorem dX4_findRanges_83 : decode cX4_findRanges 83 = .ok (.bastore, 1) := by decide +kernel
theorem dX4_findRanges_84 : decode cX4_findRanges 84 = .ok (.iinc 3 1, 3) := by decide +kernel
theorem dX4_findRanges_87 : decode cX4_findRanges 87 = .ok (.goto (-60), 3) := by decide +kernel
theorem dX4_findRanges_90 : decode cX4_findRanges 90 = .ok (.aload_n 0, 1) := by decide +kernel
theorem dX4_findRanges_91 : decode cX4_findRanges 91 = .ok (.invokevirtual 107, 3) := by decide +kernel
theorem dX4_findRanges_94 : decode cX4_findRanges 94 = .ok (.iconst 0, 1) := by decide +kernel
theorem dX4_findRanges_95 : decode cX4_findRanges 95 = .ok (.istore_n 3, 1) := by decide +kernel
theorem dX4_findRanges_96 : decode cX4_findRanges 96 = .ok (.iload_n 3, 1) := by decide +kernel
theorem dX4_findRanges_97 : decode cX4_findRanges 97 = .ok (.iconst 1, 1) := by decide +kernel
theorem dX4_findRanges_98 : decode cX4_findRanges 98 = .ok (.aload_n 0, 1) := by decide +kernel
theorem dX4_findRanges_99 : decode cX4_findRanges 99 = .ok (.getfield 47, 3) := by decide +kernel
theorem dX4_findRanges_102 : decode cX4_findRanges 102 = .ok (.ishl, 1) := by decide +kernel
theorem dX4_findRanges_103 : decode cX4_findRanges 103 = .ok (.if_icmp .ge 76, 3) := by decide +kernel
theorem dX4_findRanges_106 : decode cX4_findRanges 106 = .ok (.iload_n 3, 1) := by decide +kernel
theorem dX4_findRanges_107 : decode cX4_findRanges 107 = .ok (.aload_n 0, 1) := by decide +kernel
theorem dX4_findRanges_108 : decode cX4_findRanges 108 = .ok (.getfield 62, 3) := by decide +kernel
theorem dX4_findRanges_111 : decode cX4_findRanges 111 = .ok (.iconst (-1), 1) := by decide +kernel
theorem dX4_findRanges_112 : decode cX4_findRanges 112 = .ok (.ixor, 1) := by decide +kernel
theorem dX4_findRanges_113 : decode cX4_findRanges 113 = .ok (.iand, 1) := by decide +kernel
theorem dX4_findRanges_114 : decode cX4_findRanges 114 = .ok (.ifCond .ne 30, 3) := by decide +kernel
theorem dX4_findRanges_117 : decode cX4_findRanges 117 = .ok (.iload_n 2, 1) := by decide +kernel
theorem dX4_findRanges_118 : decode cX4_findRanges 118 = .ok (.ifCond .eq 14, 3) := by decide +kernel
theorem dX4_findRanges_121 : decode cX4_findRanges 121 = .ok (.aload_n 0, 1) := by decide +kernel
theorem dX4_findRanges_122 : decode cX4_findRanges 122 = .ok (.iload_n 3, 1) := by decide +kernel
theorem dX4_findRanges_123 : decode cX4_findRanges 123 = .ok (.invokevirtual 104, 3) := by decide +kernel
theorem dX4_findRanges_126 : decode cX4_findRanges 126 = .ok (.ifCond .eq 18, 3) := by decide +kernel
theorem dX4_findRanges_129 : decode cX4_findRanges 129 = .ok (.goto 11, 3) := by decide +kernel
theorem dX4_findRanges_132 : decode cX4_findRanges 132 = .ok (.aload_n 0, 1) := by decide +kernel
theorem dX4_findRanges_133 : decode cX4_findRanges 133 = .ok (.iload_n 3, 1) := by decide +kernel
theorem dX4_findRanges_134 : decode cX4_findRanges 134 = .ok (.invokevirtual 92, 3) := by decide +kernel
theorem dX4_findRanges_137 : decode cX4_findRanges 137 = .ok (.ifCond .eq 7, 3) := by decide +kernel
theorem dX4_findRanges_140 : decode cX4_findRanges 140 = .ok (.iconst 1, 1) := by decide +kernel
theorem dX4_findRanges_141 : decode cX4_findRanges 141 = .ok (.goto 4, 3) := by decide +kernel
theorem dX4_findRanges_144 : decode cX4_findRanges 144 = .ok (.iconst 0, 1) := by decide +kernel
theorem dX4_findRanges_145 : decode cX4_findRanges 145 = .ok (.istore 4, 2) := by decide +kernel
theorem dX4_findRanges_147 : decode cX4_findRanges 147 = .ok (.iload 4, 2) := by decide +kernel
theorem dX4_findRanges_149 : decode cX4_findRanges 149 = .ok (.ifCond .eq 24, 3) := by decide +kernel
theorem dX4_findRanges_152 : decode cX4_findRanges 152 = .ok (.aload_n 0, 1) := by decide +kernel
theorem dX4_findRanges_153 : decode cX4_findRanges 153 = .ok (.getfield 36, 3) := by decide +kernel
theorem dX4_findRanges_156 : decode cX4_findRanges 156 = .ok (.iload_n 3, 1) := by decide +kernel
theorem dX4_findRanges_157 : decode cX4_findRanges 157 = .ok (.aload_n 0, 1) := by decide +kernel
theorem dX4_findRanges_158 : decode cX4_findRanges 158 = .ok (.iload_n 3, 1) := by decide +kernel
theorem dX4_findRanges_159 : decode cX4_findRanges 159 = .ok (.invokevirtual 89, 3) := by decide +kernel
theorem dX4_findRanges_162 : decode cX4_findRanges 162 = .ok (.ior, 1) := by decide +kernel
theorem dX4_findRanges_163 : decode cX4_findRanges 163 = .ok (.baload, 1) := by decide +kernel
theorem dX4_findRanges_164 : decode cX4_findRanges 164 = .ok (.ifCond .ne 9, 3) := by decide +kernel
theorem dX4_findRanges_167 : decode cX4_findRanges 167 = .ok (.aload_n 0, 1) := by decide +kernel
theorem dX4_findRanges_168 : decode cX4_findRanges 168 = .ok (.iload_n 1, 1) := by decide +kernel
theorem dX4_findRanges_169 : decode cX4_findRanges 169 = .ok (.iload_n 3, 1) := by decide +kernel
theorem dX4_findRanges_170 : decode cX4_findRanges 170 = .ok (.invokevirtual 110, 3) := by decide +kernel
theorem dX4_findRanges_173 : decode cX4_findRanges 173 = .ok (.iinc 3 1, 3) := by decide +kernel
theorem dX4_findRanges_176 : decode cX4_findRanges 176 = .ok (.goto (-80), 3) := by decide +kernel
theorem dX4_findRanges_179 : decode cX4_findRanges 179 = .ok (.return_, 1) := by decide +kernel
set_option maxRecDepth 20000 in
theorem ggX4_groundedBehind_X4_defendedBy : GoodIn wsX4_groundedBehind wsX4_defendedBy := goodIn_r _ [5, 6, 7, 8, 9, 10, 11, 4, 12, 13, 14, 15, 16, 17, 18, 19, 20, 21, 22, 23, 24, 25, 26, 27, 28, 29, 30] (by decide +kernel) (by decide +kernel)
set_option maxRecDepth 20000 in
theorem gX4_groundedBehind_X4_defendedBy : GoodIn wsX4_groundedBehind (wsV RX4 95 RX4 yX4_defendedBy wsX4_defendedBy) := goodIn_app (goodIn_of _ (by decide +kernel)) ggX4_groundedBehind_X4_defendedBy
theorem dX4_groundedBehind_0 : decode cX4_groundedBehind 0 = .ok (.iconst 0, 1) := by decide +kernel
theorem dX4_groundedBehind_1 : decode cX4_groundedBehind 1 = .ok (.istore_n 2, 1) := by decide +kernel
theorem dX4_groundedBehind_2 : decode cX4_groundedBehind 2 = .ok (.iconst 0, 1) := by decide +kernel
theorem dX4_groundedBehind_3 : decode cX4_groundedBehind 3 = .ok (.istore_n 3, 1) := by decide +kernel
theorem dX4_groundedBehind_4 : decode cX4_groundedBehind 4 = .ok (.iload_n 3, 1) := by decide +kernel
theorem dX4_groundedBehind_5 : decode cX4_groundedBehind 5 = .ok (.iload_n 1, 1) := by decide +kernel
theorem dX4_groundedBehind_6 : decode cX4_groundedBehind 6 = .ok (.if_icmp .ge 15, 3) := by decide +kernel
theorem dX4_groundedBehind_9 : decode cX4_groundedBehind 9 = .ok (.aload_n 0, 1) := by decide +kernel
theorem dX4_groundedBehind_10 : decode cX4_groundedBehind 10 = .ok (.iload_n 2, 1) := by decide +kernel
theorem dX4_groundedBehind_11 : decode cX4_groundedBehind 11 = .ok (.invokevirtual 95, 3) := by decide +kernel
theorem dX4_groundedBehind_14 : decode cX4_groundedBehind 14 = .ok (.istore_n 2, 1) := by decide +kernel
theorem dX4_groundedBehind_15 : decode cX4_groundedBehind 15 = .ok (.iinc 3 1, 3) := by decide +kernel
theorem dX4_groundedBehind_18 : decode cX4_groundedBehind 18 = .ok (.goto (-14), 3) := by decide +kernel
theorem dX4_groundedBehind_21 : decode cX4_groundedBehind 21 = .ok (.iload_n 2, 1) := by decide +kernel
theorem dX4_groundedBehind_22 : decode cX4_groundedBehind 22 = .ok (.ireturn, 1) := by decide +kernel
set_option maxRecDepth 20000 in
theorem ggX4_know_X4_look : GoodIn wsX4_know wsX4_look := goodIn_r _ [11, 3, 12, 13, 14, 15, 16, 10, 17, 18, 19, 20, 21, 5, 22, 23, 24, 25, 26, 27, 28, 29, 30, 31, 72, 73, 74, 75, 76, 77, 78, 79, 80, 81, 82, 83, 84, 85] (by decide +kernel) (by decide +kernel)
set_option maxRecDepth 20000 in
theorem gX4_know_X4_look : GoodIn wsX4_know (wsV RX4 101 RX4 yX4_look wsX4_look) := goodIn_app (goodIn_of _ (by decide +kernel)) ggX4_know_X4_look
set_option maxRecDepth 20000 in
theorem ggX4_know_X4_isAdmissibleSet : GoodIn wsX4_know wsX4_isAdmissibleSet := goodIn_r _ [35, 36, 37, 38, 10, 39, 40, 41, 42, 43, 3, 13, 25, 26, 27, 44, 45, 46, 47, 5, 12, 72, 73, 74, 75, 76, 77, 78, 79, 80, 81, 82, 83, 84, 85] (by decide +kernel) (by decide +kernel)
set_option maxRecDepth 20000 in
theorem gX4_know_X4_isAdmissibleSet : GoodIn wsX4_know (wsV RX4 104 RX4 yX4_isAdmissibleSet wsX4_isAdmissibleSet) := goodIn_app (goodIn_of _ (by decide +kernel)) ggX4_know_X4_isAdmissibleSet
set_option maxRecDepth 20000 in
theorem ggX4_know_X4_defendedBy : GoodIn wsX4_know wsX4_defendedBy := goodIn_r _ [47, 3, 5, 12, 40, 41, 42, 10, 43, 13, 25, 26, 27, 72, 73, 74, 75, 76, 77, 78, 79, 80, 81, 82, 83, 84, 85] (by decide +kernel) (by decide +kernel)
set_option maxRecDepth 20000 in
theorem gX4_know_X4_defendedBy : GoodIn wsX4_know (wsV RX4 95 RX4 yX4_defendedBy wsX4_defendedBy) := goodIn_app (goodIn_of _ (by decide +kernel)) ggX4_know_X4_defendedBy
set_option maxRecDepth 20000 in
theorem ggX4_know_X4_put_ : GoodIn wsX4_know wsX4_put_ := goodIn_r _ [51, 52, 2, 72, 73, 74, 75, 76, 77, 78, 79, 80, 81, 82, 83, 84, 85] (by decide +kernel) (by decide +kernel)
set_option maxRecDepth 20000 in
theorem gX4_know_X4_put_ : GoodIn wsX4_know (wsV RX4 110 RX4 yX4_put_ wsX4_put_) := goodIn_app (goodIn_of _ (by decide +kernel)) ggX4_know_X4_put_
set_option maxRecDepth 20000 in
theorem ggX4_know_X4_isFreeSet : GoodIn wsX4_know wsX4_isFreeSet := goodIn_r _ [39, 40, 41, 42, 10, 43, 3, 13, 25, 26, 27, 72, 73, 74, 75, 76, 77, 78, 79, 80, 81, 82, 83, 84, 85] (by decide +kernel) (by decide +kernel)
set_option maxRecDepth 20000 in
theorem gX4_know_X4_isFreeSet : GoodIn wsX4_know (wsV RX4 92 RX4 yX4_isFreeSet wsX4_isFreeSet) := goodIn_app (goodIn_of _ (by decide +kernel)) ggX4_know_X4_isFreeSet
set_option maxRecDepth 20000 in
theorem ggX4_know_X4_hit : GoodIn wsX4_know wsX4_hit := goodIn_r _ [43, 3, 13, 25, 26, 10, 27, 72, 73, 74, 75, 76, 77, 78, 79, 80, 81, 82, 83, 84, 85] (by decide +kernel) (by decide +kernel)
set_option maxRecDepth 20000 in
theorem gX4_know_X4_hit : GoodIn wsX4_know (wsV RX4 89 RX4 yX4_hit wsX4_hit) := goodIn_app (goodIn_of _ (by decide +kernel)) ggX4_know_X4_hit
set_option maxRecDepth 20000 in
theorem ggX4_know_X4_raise : GoodIn wsX4_know wsX4_raise := goodIn_r _ [56, 3, 6, 4, 25, 26, 10, 27, 72, 73, 74, 75, 76, 77, 78, 79, 80, 81, 82, 83, 84, 85] (by decide +kernel) (by decide +kernel)
set_option maxRecDepth 20000 in
theorem gX4_know_X4_raise : GoodIn wsX4_know (wsV RX4 107 RX4 yX4_raise wsX4_raise) := goodIn_app (goodIn_of _ (by decide +kernel)) ggX4_know_X4_raise
set_option maxRecDepth 20000 in
theorem ggX4_know_X4_groundedBehind : GoodIn wsX4_know wsX4_groundedBehind := goodIn_r _ [60, 44, 45, 46, 10, 47, 3, 5, 12, 40, 41, 42, 43, 13, 25, 26, 27, 72, 73, 74, 75, 76, 77, 78, 79, 80, 81, 82, 83, 84, 85] (by decide +kernel) (by decide +kernel)
set_option maxRecDepth 20000 in
theorem gX4_know_X4_groundedBehind : GoodIn wsX4_know (wsV RX4 114 RX4 yX4_groundedBehind wsX4_groundedBehind) := goodIn_app (goodIn_of _ (by decide +kernel)) ggX4_know_X4_groundedBehind
set_option maxRecDepth 20000 in
theorem ggX4_know_J6_bitCount_0f7a4 : GoodIn wsX4_know wsJ6_bitCount_0f7a4 := goodIn_r _ [64, 65, 66, 67] (by decide +kernel) (by decide +kernel)
set_option maxRecDepth 20000 in
theorem gX4_know_J6_bitCount_0f7a4 : GoodIn wsX4_know (va_wsS RX4 84 yJ6_bitCount_0f7a4 wsJ6_bitCount_0f7a4) := goodIn_app (goodIn_of _ (by decide +kernel)) ggX4_know_J6_bitCount_0f7a4
set_option maxRecDepth 20000 in
theorem ggX4_know_X4_findRanges : GoodIn wsX4_know wsX4_findRanges := goodIn_r _ [71, 3, 4, 5, 6, 32, 33, 34, 10, 35, 36, 37, 38, 39, 40, 41, 42, 43, 13, 25, 26, 27, 44, 45, 46, 47, 12, 53, 54, 55, 56, 48, 49, 50, 51, 52, 2, 72, 73, 74, 75, 76, 77, 78, 79, 80, 81, 82, 83, 84, 85] (by decide +kernel) (by decide +kernel)
set_option maxRecDepth 20000 in
theorem gX4_know_X4_findRanges : GoodIn wsX4_know (wsV RX4 117 RX4 yX4_findRanges wsX4_findRanges) := goodIn_app (goodIn_of _ (by decide +kernel)) ggX4_know_X4_findRanges
theorem dX4_know_0 : decode cX4_know 0 = .ok (.aload_n 0, 1) := by decide +kernel
theorem dX4_know_1 : decode cX4_know 1 = .ok (.getfield 50, 3) := by decide +kernel
theorem dX4_know_4 : decode cX4_know 4 = .ok (.ifCond .eq 4, 3) := by decide +kernel
theorem dX4_know_7 : decode cX4_know 7 = .ok (.return_, 1) := by decide +kernel
theorem dX4_know_8 : decode cX4_know 8 = .ok (.aload_n 0, 1) := by decide +kernel
theorem dX4_know_9 : decode cX4_know 9 = .ok (.iconst 1, 1) := by decide +kernel
theorem dX4_know_10 : decode cX4_know 10 = .ok (.putfield 50, 3) := by decide +kernel
theorem dX4_know_13 : decode cX4_know 13 = .ok (.aload_n 0, 1) := by decide +kernel
theorem dX4_know_14 : decode cX4_know 14 = .ok (.invokevirtual 101, 3) := by decide +kernel
theorem dX4_know_17 : decode cX4_know 17 = .ok (.iconst 0, 1) := by decide +kernel
theorem dX4_know_18 : decode cX4_know 18 = .ok (.istore_n 1, 1) := by decide +kernel
theorem dX4_know_19 : decode cX4_know 19 = .ok (.iload_n 1, 1) := by decide +kernel
theorem dX4_know_20 : decode cX4_know 20 = .ok (.bipush 7, 2) := by decide +kernel
theorem dX4_know_22 : decode cX4_know 22 = .ok (.if_icmp .ge 16, 3) := by decide +kernel
theorem dX4_know_25 : decode cX4_know 25 = .ok (.aload_n 0, 1) := by decide +kernel
theorem dX4_know_26 : decode cX4_know 26 = .ok (.getfield 20, 3) := by decide +kernel
theorem dX4_know_29 : decode cX4_know 29 = .ok (.iload_n 1, 1) := by decide +kernel
theorem dX4_know_30 : decode cX4_know 30 = .ok (.iconst 0, 1) := by decide +kernel
theorem dX4_know_31 : decode cX4_know 31 = .ok (.iastore, 1) := by decide +kernel
theorem dX4_know_32 : decode cX4_know 32 = .ok (.iinc 1 1, 3) := by decide +kernel
theorem dX4_know_35 : decode cX4_know 35 = .ok (.goto (-16), 3) := by decide +kernel
theorem dX4_know_38 : decode cX4_know 38 = .ok (.iconst 0, 1) := by decide +kernel
theorem dX4_know_39 : decode cX4_know 39 = .ok (.istore_n 1, 1) := by decide +kernel
theorem dX4_know_40 : decode cX4_know 40 = .ok (.iload_n 1, 1) := by decide +kernel
theorem dX4_know_41 : decode cX4_know 41 = .ok (.iconst 1, 1) := by decide +kernel
theorem dX4_know_42 : decode cX4_know 42 = .ok (.aload_n 0, 1) := by decide +kernel
theorem dX4_know_43 : decode cX4_know 43 = .ok (.getfield 47, 3) := by decide +kernel
theorem dX4_know_46 : decode cX4_know 46 = .ok (.ishl, 1) := by decide +kernel
theorem dX4_know_47 : decode cX4_know 47 = .ok (.if_icmp .ge 102, 3) := by decide +kernel
theorem dX4_know_50 : decode cX4_know 50 = .ok (.aload_n 0, 1) := by decide +kernel
theorem dX4_know_51 : decode cX4_know 51 = .ok (.getfield 32, 3) := by decide +kernel
theorem dX4_know_54 : decode cX4_know 54 = .ok (.iload_n 1, 1) := by decide +kernel
theorem dX4_know_55 : decode cX4_know 55 = .ok (.iload_n 1, 1) := by decide +kernel
theorem dX4_know_56 : decode cX4_know 56 = .ok (.aload_n 0, 1) := by decide +kernel
theorem dX4_know_57 : decode cX4_know 57 = .ok (.getfield 62, 3) := by decide +kernel
theorem dX4_know_60 : decode cX4_know 60 = .ok (.iconst (-1), 1) := by decide +kernel
theorem dX4_know_61 : decode cX4_know 61 = .ok (.ixor, 1) := by decide +kernel
theorem dX4_know_62 : decode cX4_know 62 = .ok (.iand, 1) := by decide +kernel
theorem dX4_know_63 : decode cX4_know 63 = .ok (.ifCond .ne 15, 3) := by decide +kernel
theorem dX4_know_66 : decode cX4_know 66 = .ok (.aload_n 0, 1) := by decide +kernel
theorem dX4_know_67 : decode cX4_know 67 = .ok (.iload_n 1, 1) := by decide +kernel
theorem dX4_know_68 : decode cX4_know 68 = .ok (.invokevirtual 104, 3) := by decide +kernel
theorem dX4_know_71 : decode cX4_know 71 = .ok (.ifCond .eq 7, 3) := by decide +kernel
theorem dX4_know_74 : decode cX4_know 74 = .ok (.iconst 1, 1) := by decide +kernel
theorem dX4_know_75 : decode cX4_know 75 = .ok (.goto 4, 3) := by decide +kernel
theorem dX4_know_78 : decode cX4_know 78 = .ok (.iconst 0, 1) := by decide +kernel
theorem dX4_know_79 : decode cX4_know 79 = .ok (.bastore, 1) := by decide +kernel
theorem dX4_know_80 : decode cX4_know 80 = .ok (.aload_n 0, 1) := by decide +kernel
theorem dX4_know_81 : decode cX4_know 81 = .ok (.getfield 32, 3) := by decide +kernel
theorem dX4_know_84 : decode cX4_know 84 = .ok (.iload_n 1, 1) := by decide +kernel
theorem dX4_know_85 : decode cX4_know 85 = .ok (.baload, 1) := by decide +kernel
theorem dX4_know_86 : decode cX4_know 86 = .ok (.ifCond .eq 18, 3) := by decide +kernel
theorem dX4_know_89 : decode cX4_know 89 = .ok (.aload_n 0, 1) := by decide +kernel
theorem dX4_know_90 : decode cX4_know 90 = .ok (.iload_n 1, 1) := by decide +kernel
theorem dX4_know_91 : decode cX4_know 91 = .ok (.invokevirtual 95, 3) := by decide +kernel
theorem dX4_know_94 : decode cX4_know 94 = .ok (.iload_n 1, 1) := by decide +kernel
theorem dX4_know_95 : decode cX4_know 95 = .ok (.if_icmp .ne 9, 3) := by decide +kernel
theorem dX4_know_98 : decode cX4_know 98 = .ok (.aload_n 0, 1) := by decide +kernel
theorem dX4_know_99 : decode cX4_know 99 = .ok (.iconst 0, 1) := by decide +kernel
theorem dX4_know_100 : decode cX4_know 100 = .ok (.iload_n 1, 1) := by decide +kernel
theorem dX4_know_101 : decode cX4_know 101 = .ok (.invokevirtual 110, 3) := by decide +kernel
theorem dX4_know_104 : decode cX4_know 104 = .ok (.iload_n 1, 1) := by decide +kernel
theorem dX4_know_105 : decode cX4_know 105 = .ok (.aload_n 0, 1) := by decide +kernel
theorem dX4_know_106 : decode cX4_know 106 = .ok (.getfield 62, 3) := by decide +kernel
theorem dX4_know_109 : decode cX4_know 109 = .ok (.iconst (-1), 1) := by decide +kernel
theorem dX4_know_110 : decode cX4_know 110 = .ok (.ixor, 1) := by decide +kernel
theorem dX4_know_111 : decode cX4_know 111 = .ok (.iand, 1) := by decide +kernel
theorem dX4_know_112 : decode cX4_know 112 = .ok (.ifCond .ne 31, 3) := by decide +kernel
theorem dX4_know_115 : decode cX4_know 115 = .ok (.aload_n 0, 1) := by decide +kernel
theorem dX4_know_116 : decode cX4_know 116 = .ok (.iload_n 1, 1) := by decide +kernel
theorem dX4_know_117 : decode cX4_know 117 = .ok (.invokevirtual 92, 3) := by decide +kernel
theorem dX4_know_120 : decode cX4_know 120 = .ok (.ifCond .eq 23, 3) := by decide +kernel
theorem dX4_know_123 : decode cX4_know 123 = .ok (.iload_n 1, 1) := by decide +kernel
theorem dX4_know_124 : decode cX4_know 124 = .ok (.aload_n 0, 1) := by decide +kernel
theorem dX4_know_125 : decode cX4_know 125 = .ok (.iload_n 1, 1) := by decide +kernel
theorem dX4_know_126 : decode cX4_know 126 = .ok (.invokevirtual 89, 3) := by decide +kernel
theorem dX4_know_129 : decode cX4_know 129 = .ok (.ior, 1) := by decide +kernel
theorem dX4_know_130 : decode cX4_know 130 = .ok (.aload_n 0, 1) := by decide +kernel
theorem dX4_know_131 : decode cX4_know 131 = .ok (.getfield 62, 3) := by decide +kernel
theorem dX4_know_134 : decode cX4_know 134 = .ok (.if_icmp .ne 9, 3) := by decide +kernel
theorem dX4_know_137 : decode cX4_know 137 = .ok (.aload_n 0, 1) := by decide +kernel
theorem dX4_know_138 : decode cX4_know 138 = .ok (.iconst 3, 1) := by decide +kernel
theorem dX4_know_139 : decode cX4_know 139 = .ok (.iload_n 1, 1) := by decide +kernel
theorem dX4_know_140 : decode cX4_know 140 = .ok (.invokevirtual 110, 3) := by decide +kernel
theorem dX4_know_143 : decode cX4_know 143 = .ok (.iinc 1 1, 3) := by decide +kernel
theorem dX4_know_146 : decode cX4_know 146 = .ok (.goto (-106), 3) := by decide +kernel
theorem dX4_know_149 : decode cX4_know 149 = .ok (.aload_n 0, 1) := by decide +kernel
theorem dX4_know_150 : decode cX4_know 150 = .ok (.invokevirtual 107, 3) := by decide +kernel
theorem dX4_know_153 : decode cX4_know 153 = .ok (.aload_n 0, 1) := by decide +kernel
theorem dX4_know_154 : decode cX4_know 154 = .ok (.getfield 62, 3) := by decide +kernel
theorem dX4_know_157 : decode cX4_know 157 = .ok (.istore_n 1, 1) := by decide +kernel
theorem dX4_know_158 : decode cX4_know 158 = .ok (.iconst 0, 1) := by decide +kernel
theorem dX4_know_159 : decode cX4_know 159 = .ok (.istore_n 2, 1) := by decide +kernel
theorem dX4_know_160 : decode cX4_know 160 = .ok (.iload_n 2, 1) := by decide +kernel
theorem dX4_know_161 : decode cX4_know 161 = .ok (.iconst 1, 1) := by decide +kernel
theorem dX4_know_162 : decode cX4_know 162 = .ok (.aload_n 0, 1) := by decide +kernel
theorem dX4_know_163 : decode cX4_know 163 = .ok (.getfield 47, 3) := by decide +kernel
theorem dX4_know_166 : decode cX4_know 166 = .ok (.ishl, 1) := by decide +kernel
theorem dX4_know_167 : decode cX4_know 167 = .ok (.if_icmp .ge 40, 3) := by decide +kernel
theorem dX4_know_170 : decode cX4_know 170 = .ok (.aload_n 0, 1) := by decide +kernel
theorem dX4_know_171 : decode cX4_know 171 = .ok (.getfield 32, 3) := by decide +kernel
theorem dX4_know_174 : decode cX4_know 174 = .ok (.iload_n 2, 1) := by decide +kernel
theorem dX4_know_175 : decode cX4_know 175 = .ok (.baload, 1) := by decide +kernel
theorem dX4_know_176 : decode cX4_know 176 = .ok (.ifCond .eq 25, 3) := by decide +kernel
theorem dX4_know_179 : decode cX4_know 179 = .ok (.aload_n 0, 1) := by decide +kernel
theorem dX4_know_180 : decode cX4_know 180 = .ok (.getfield 36, 3) := by decide +kernel
theorem dX4_know_183 : decode cX4_know 183 = .ok (.iload_n 2, 1) := by decide +kernel
theorem dX4_know_184 : decode cX4_know 184 = .ok (.baload, 1) := by decide +kernel
theorem dX4_know_185 : decode cX4_know 185 = .ok (.ifCond .eq 6, 3) := by decide +kernel
theorem dX4_know_188 : decode cX4_know 188 = .ok (.goto 13, 3) := by decide +kernel
theorem dX4_know_191 : decode cX4_know 191 = .ok (.aload_n 0, 1) := by decide +kernel
theorem dX4_know_192 : decode cX4_know 192 = .ok (.iconst 2, 1) := by decide +kernel
theorem dX4_know_193 : decode cX4_know 193 = .ok (.iload_n 2, 1) := by decide +kernel
theorem dX4_know_194 : decode cX4_know 194 = .ok (.invokevirtual 110, 3) := by decide +kernel
theorem dX4_know_197 : decode cX4_know 197 = .ok (.iload_n 1, 1) := by decide +kernel
theorem dX4_know_198 : decode cX4_know 198 = .ok (.iload_n 2, 1) := by decide +kernel
theorem dX4_know_199 : decode cX4_know 199 = .ok (.iand, 1) := by decide +kernel
theorem dX4_know_200 : decode cX4_know 200 = .ok (.istore_n 1, 1) := by decide +kernel
theorem dX4_know_201 : decode cX4_know 201 = .ok (.iinc 2 1, 3) := by decide +kernel
theorem dX4_know_204 : decode cX4_know 204 = .ok (.goto (-44), 3) := by decide +kernel
theorem dX4_know_207 : decode cX4_know 207 = .ok (.aload_n 0, 1) := by decide +kernel
theorem dX4_know_208 : decode cX4_know 208 = .ok (.iconst 1, 1) := by decide +kernel
theorem dX4_know_209 : decode cX4_know 209 = .ok (.aload_n 0, 1) := by decide +kernel
theorem dX4_know_210 : decode cX4_know 210 = .ok (.bipush 12, 2) := by decide +kernel
theorem dX4_know_212 : decode cX4_know 212 = .ok (.invokevirtual 114, 3) := by decide +kernel
theorem dX4_know_215 : decode cX4_know 215 = .ok (.invokevirtual 110, 3) := by decide +kernel
theorem dX4_know_218 : decode cX4_know 218 = .ok (.iconst 0, 1) := by decide +kernel
theorem dX4_know_219 : decode cX4_know 219 = .ok (.istore_n 2, 1) := by decide +kernel
theorem dX4_know_220 : decode cX4_know 220 = .ok (.iconst 0, 1) := by decide +kernel
theorem dX4_know_221 : decode cX4_know 221 = .ok (.istore_n 3, 1) := by decide +kernel
theorem dX4_know_222 : decode cX4_know 222 = .ok (.iload_n 3, 1) := by decide +kernel
theorem dX4_know_223 : decode cX4_know 223 = .ok (.iconst 1, 1) := by decide +kernel
theorem dX4_know_224 : decode cX4_know 224 = .ok (.aload_n 0, 1) := by decide +kernel
theorem dX4_know_225 : decode cX4_know 225 = .ok (.getfield 47, 3) := by decide +kernel
theorem dX4_know_228 : decode cX4_know 228 = .ok (.ishl, 1) := by decide +kernel
theorem dX4_know_229 : decode cX4_know 229 = .ok (.if_icmp .ge 39, 3) := by decide +kernel
theorem dX4_know_232 : decode cX4_know 232 = .ok (.aload_n 0, 1) := by decide +kernel
theorem dX4_know_233 : decode cX4_know 233 = .ok (.getfield 32, 3) := by decide +kernel
theorem dX4_know_236 : decode cX4_know 236 = .ok (.iload_n 3, 1) := by decide +kernel
theorem dX4_know_237 : decode cX4_know 237 = .ok (.baload, 1) := by decide +kernel
theorem dX4_know_238 : decode cX4_know 238 = .ok (.ifCond .eq 24, 3) := by decide +kernel
theorem dX4_know_241 : decode cX4_know 241 = .ok (.iload_n 3, 1) := by decide +kernel
theorem dX4_know_242 : decode cX4_know 242 = .ok (.iload_n 1, 1) := by decide +kernel
theorem dX4_know_243 : decode cX4_know 243 = .ok (.iconst (-1), 1) := by decide +kernel
theorem dX4_know_244 : decode cX4_know 244 = .ok (.ixor, 1) := by decide +kernel
theorem dX4_know_245 : decode cX4_know 245 = .ok (.iand, 1) := by decide +kernel
theorem dX4_know_246 : decode cX4_know 246 = .ok (.ifCond .ne 16, 3) := by decide +kernel
theorem dX4_know_249 : decode cX4_know 249 = .ok (.iload_n 3, 1) := by decide +kernel
theorem dX4_know_250 : decode cX4_know 250 = .ok (.invokestatic 84, 3) := by decide +kernel
theorem dX4_know_253 : decode cX4_know 253 = .ok (.iload_n 2, 1) := by decide +kernel
theorem dX4_know_254 : decode cX4_know 254 = .ok (.invokestatic 84, 3) := by decide +kernel
theorem dX4_know_257 : decode cX4_know 257 = .ok (.if_icmp .le 5, 3) := by decide +kernel
theorem dX4_know_260 : decode cX4_know 260 = .ok (.iload_n 3, 1) := by decide +kernel
theorem dX4_know_261 : decode cX4_know 261 = .ok (.istore_n 2, 1) := by decide +kernel
theorem dX4_know_262 : decode cX4_know 262 = .ok (.iinc 3 1, 3) := by decide +kernel
theorem dX4_know_265 : decode cX4_know 265 = .ok (.goto (-43), 3) := by decide +kernel
theorem dX4_know_268 : decode cX4_know 268 = .ok (.aload_n 0, 1) := by decide +kernel
theorem dX4_know_269 : decode cX4_know 269 = .ok (.bipush 6, 2) := by decide +kernel
theorem dX4_know_271 : decode cX4_know 271 = .ok (.iload_n 2, 1) := by decide +kernel
theorem dX4_know_272 : decode cX4_know 272 = .ok (.invokevirtual 110, 3) := by decide +kernel
theorem dX4_know_275 : decode cX4_know 275 = .ok (.aload_n 0, 1) := by decide +kernel
theorem dX4_know_276 : decode cX4_know 276 = .ok (.iconst 4, 1) := by decide +kernel
theorem dX4_know_277 : decode cX4_know 277 = .ok (.iconst 0, 1) := by decide +kernel
theorem dX4_know_278 : decode cX4_know 278 = .ok (.invokevirtual 117, 3) := by decide +kernel
theorem dX4_know_281 : decode cX4_know 281 = .ok (.aload_n 0, 1) := by decide +kernel
theorem dX4_know_282 : decode cX4_know 282 = .ok (.iconst 5, 1) := by decide +kernel
theorem dX4_know_283 : decode cX4_know 283 = .ok (.iconst 1, 1) := by decide +kernel
theorem dX4_know_284 : decode cX4_know 284 = .ok (.invokevirtual 117, 3) := by decide +kernel
theorem dX4_know_287 : decode cX4_know 287 = .ok (.return_, 1) := by decide +kernel
set_option maxRecDepth 20000 in
theorem ggX4_asks_X4_know : GoodIn wsX4_asks wsX4_know := goodIn_r _ [6, 7, 8, 9, 10, 11, 12, 13, 14, 15, 5, 16, 17, 18, 19, 20, 21, 22, 23, 24, 25, 26, 27, 28, 29, 30, 31, 32, 33, 34, 35, 36, 37, 38, 39, 40, 41, 42, 43, 44, 45, 46, 47, 48, 49, 50, 51, 52, 53, 54, 55, 56, 57, 58, 59, 60, 61, 62, 63, 64, 65, 66, 67, 68, 69, 70, 71, 72, 73, 74, 75, 76, 77, 78, 79, 80, 81, 82, 83, 84, 85, 86, 87, 88, 89, 90] (by decide +kernel) (by decide +kernel)
set_option maxRecDepth 20000 in
theorem gX4_asks_X4_know : GoodIn wsX4_asks (wsV RX4 121 RX4 yX4_know wsX4_know) := goodIn_app (goodIn_of _ (by decide +kernel)) ggX4_asks_X4_know
theorem dX4_asks_0 : decode cX4_asks 0 = .ok (.aload_n 0, 1) := by decide +kernel
theorem dX4_asks_1 : decode cX4_asks 1 = .ok (.iload_n 1, 1) := by decide +kernel
theorem dX4_asks_2 : decode cX4_asks 2 = .ok (.ifCond .lt 13, 3) := by decide +kernel
theorem dX4_asks_5 : decode cX4_asks 5 = .ok (.iload_n 1, 1) := by decide +kernel
theorem dX4_asks_6 : decode cX4_asks 6 = .ok (.bipush 7, 2) := by decide +kernel
theorem dX4_asks_8 : decode cX4_asks 8 = .ok (.if_icmp .ge 7, 3) := by decide +kernel
theorem dX4_asks_11 : decode cX4_asks 11 = .ok (.iconst 0, 1) := by decide +kernel
theorem dX4_asks_12 : decode cX4_asks 12 = .ok (.goto 4, 3) := by decide +kernel
theorem dX4_asks_15 : decode cX4_asks 15 = .ok (.iconst 1, 1) := by decide +kernel
theorem dX4_asks_16 : decode cX4_asks 16 = .ok (.putfield 44, 3) := by decide +kernel
theorem dX4_asks_19 : decode cX4_asks 19 = .ok (.aload_n 0, 1) := by decide +kernel
theorem dX4_asks_20 : decode cX4_asks 20 = .ok (.invokevirtual 121, 3) := by decide +kernel
theorem dX4_asks_23 : decode cX4_asks 23 = .ok (.aload_n 0, 1) := by decide +kernel
theorem dX4_asks_24 : decode cX4_asks 24 = .ok (.getfield 44, 3) := by decide +kernel
theorem dX4_asks_27 : decode cX4_asks 27 = .ok (.ifCond .ne 7, 3) := by decide +kernel
theorem dX4_asks_30 : decode cX4_asks 30 = .ok (.iconst 1, 1) := by decide +kernel
theorem dX4_asks_31 : decode cX4_asks 31 = .ok (.goto 4, 3) := by decide +kernel
theorem dX4_asks_34 : decode cX4_asks 34 = .ok (.iconst 0, 1) := by decide +kernel
theorem dX4_asks_35 : decode cX4_asks 35 = .ok (.ireturn, 1) := by decide +kernel
set_option maxRecDepth 20000 in
theorem ggX4_positions_X4_asks : GoodIn wsX4_positions wsX4_asks := goodIn_r _ [6, 7, 8, 9, 10, 5, 11, 12, 1, 13, 14, 15, 16, 17, 18, 19, 20, 21, 22, 23, 24, 25, 26, 27, 28, 29, 30, 31, 32, 33, 34, 35, 36, 37, 38, 39, 40, 41, 42, 43, 44, 45, 46, 47, 48, 49, 50, 51, 52, 53, 54, 55, 56, 57, 58, 59, 60, 61, 62, 63, 64, 65, 66, 67, 68, 69, 70, 71, 72, 73, 74, 75, 76, 77, 78, 79, 80, 81, 82, 83, 84, 85, 86, 87, 88, 89, 90, 91, 92, 93, 94] (by decide +kernel) (by decide +kernel)
set_option maxRecDepth 20000 in
theorem gX4_positions_X4_asks : GoodIn wsX4_positions (wsV RX4 124 RX4 yX4_asks wsX4_asks) := goodIn_app (goodIn_of _ (by decide +kernel)) ggX4_positions_X4_asks
theorem dX4_positions_0 : decode cX4_positions 0 = .ok (.aload_n 0, 1) := by decide +kernel
theorem dX4_positions_1 : decode cX4_positions 1 = .ok (.iload_n 1, 1) := by decide +kernel
theorem dX4_positions_2 : decode cX4_positions 2 = .ok (.invokevirtual 124, 3) := by decide +kernel
theorem dX4_positions_5 : decode cX4_positions 5 = .ok (.ifCond .eq 12, 3) := by decide +kernel
theorem dX4_positions_8 : decode cX4_positions 8 = .ok (.aload_n 0, 1) := by decide +kernel
theorem dX4_positions_9 : decode cX4_positions 9 = .ok (.getfield 20, 3) := by decide +kernel
theorem dX4_positions_12 : decode cX4_positions 12 = .ok (.iload_n 1, 1) := by decide +kernel
theorem dX4_positions_13 : decode cX4_positions 13 = .ok (.iaload, 1) := by decide +kernel
theorem dX4_positions_14 : decode cX4_positions 14 = .ok (.goto 4, 3) := by decide +kernel
theorem dX4_positions_17 : decode cX4_positions 17 = .ok (.iconst 0, 1) := by decide +kernel
theorem dX4_positions_18 : decode cX4_positions 18 = .ok (.ireturn, 1) := by decide +kernel
set_option maxRecDepth 20000 in
theorem ggX4_position_X4_asks : GoodIn wsX4_position wsX4_asks := goodIn_r _ [7, 8, 9, 10, 11, 6, 12, 13, 1, 14, 15, 16, 17, 18, 19, 20, 21, 22, 23, 24, 25, 26, 27, 28, 29, 30, 31, 32, 33, 34, 35, 36, 37, 38, 39, 40, 41, 42, 43, 44, 45, 46, 47, 48, 49, 50, 51, 52, 53, 54, 55, 56, 57, 58, 59, 60, 61, 2, 62, 63, 64, 65, 66, 67, 68, 69, 70, 71, 72, 73, 74, 75, 76, 77, 78, 79, 80, 85, 86, 87, 88, 89, 90, 91, 92, 93, 94, 95, 96, 97, 98] (by decide +kernel) (by decide +kernel)
set_option maxRecDepth 20000 in
theorem gX4_position_X4_asks : GoodIn wsX4_position (wsV RX4 124 RX4 yX4_asks wsX4_asks) := goodIn_app (goodIn_of _ (by decide +kernel)) ggX4_position_X4_asks
set_option maxRecDepth 20000 in
theorem ggX4_position_X4_fail : GoodIn wsX4_position wsX4_fail := goodIn_r _ [84, 8, 85, 86, 87, 88, 89, 90, 91, 92, 93, 94, 95, 96, 97, 98] (by decide +kernel) (by decide +kernel)
set_option maxRecDepth 20000 in
theorem gX4_position_X4_fail : GoodIn wsX4_position (wsV RX4 58 RX4 yX4_fail wsX4_fail) := goodIn_app (goodIn_of _ (by decide +kernel)) ggX4_position_X4_fail
theorem dX4_position_0 : decode cX4_position 0 = .ok (.aload_n 0, 1) := by decide +kernel
theorem dX4_position_1 : decode cX4_position 1 = .ok (.iload_n 1, 1) := by decide +kernel
theorem dX4_position_2 : decode cX4_position 2 = .ok (.invokevirtual 124, 3) := by decide +kernel
theorem dX4_position_5 : decode cX4_position 5 = .ok (.ifCond .ne 5, 3) := by decide +kernel
theorem dX4_position_8 : decode cX4_position 8 = .ok (.iconst 0, 1) := by decide +kernel
theorem dX4_position_9 : decode cX4_position 9 = .ok (.ireturn, 1) := by decide +kernel
theorem dX4_position_10 : decode cX4_position 10 = .ok (.iload_n 2, 1) := by decide +kernel
theorem dX4_position_11 : decode cX4_position 11 = .ok (.ifCond .lt 28, 3) := by decide +kernel
theorem dX4_position_14 : decode cX4_position 14 = .ok (.iload_n 2, 1) := by decide +kernel
theorem dX4_position_15 : decode cX4_position 15 = .ok (.aload_n 0, 1) := by decide +kernel
theorem dX4_position_16 : decode cX4_position 16 = .ok (.getfield 20, 3) := by decide +kernel
theorem dX4_position_19 : decode cX4_position 19 = .ok (.iload_n 1, 1) := by decide +kernel
theorem dX4_position_20 : decode cX4_position 20 = .ok (.iaload, 1) := by decide +kernel
theorem dX4_position_21 : decode cX4_position 21 = .ok (.if_icmp .ge 18, 3) := by decide +kernel
theorem dX4_position_24 : decode cX4_position 24 = .ok (.aload_n 0, 1) := by decide +kernel
theorem dX4_position_25 : decode cX4_position 25 = .ok (.getfield 23, 3) := by decide +kernel
theorem dX4_position_28 : decode cX4_position 28 = .ok (.sipush 4096, 3) := by decide +kernel
theorem dX4_position_31 : decode cX4_position 31 = .ok (.iload_n 1, 1) := by decide +kernel
theorem dX4_position_32 : decode cX4_position 32 = .ok (.imul, 1) := by decide +kernel
theorem dX4_position_33 : decode cX4_position 33 = .ok (.iload_n 2, 1) := by decide +kernel
theorem dX4_position_34 : decode cX4_position 34 = .ok (.iadd, 1) := by decide +kernel
theorem dX4_position_35 : decode cX4_position 35 = .ok (.iaload, 1) := by decide +kernel
theorem dX4_position_36 : decode cX4_position 36 = .ok (.goto 8, 3) := by decide +kernel
theorem dX4_position_39 : decode cX4_position 39 = .ok (.aload_n 0, 1) := by decide +kernel
theorem dX4_position_40 : decode cX4_position 40 = .ok (.iconst 1, 1) := by decide +kernel
theorem dX4_position_41 : decode cX4_position 41 = .ok (.invokevirtual 58, 3) := by decide +kernel
theorem dX4_position_44 : decode cX4_position 44 = .ok (.ireturn, 1) := by decide +kernel
set_option maxRecDepth 20000 in
theorem ggX4_accepted_X4_asks : GoodIn wsX4_accepted wsX4_asks := goodIn_r _ [8, 9, 10, 11, 12, 7, 13, 14, 2, 15, 16, 1, 17, 18, 19, 20, 21, 22, 23, 24, 25, 26, 27, 28, 29, 30, 31, 32, 33, 34, 35, 36, 37, 38, 39, 40, 41, 42, 43, 44, 45, 46, 47, 48, 49, 50, 51, 52, 53, 54, 55, 56, 57, 58, 59, 60, 61, 3, 62, 63, 64, 65, 66, 67, 68, 69, 70, 71, 72, 73, 74, 75, 76, 77, 78, 79, 80, 81, 82, 83, 84, 85, 86, 87, 88, 89, 90, 91, 92, 93, 94] (by decide +kernel) (by decide +kernel)
set_option maxRecDepth 20000 in
theorem gX4_accepted_X4_asks : GoodIn wsX4_accepted (wsV RX4 124 RX4 yX4_asks wsX4_asks) := goodIn_app (goodIn_of _ (by decide +kernel)) ggX4_accepted_X4_asks
theorem dX4_accepted_0 : decode cX4_accepted 0 = .ok (.aload_n 0, 1) := by decide +kernel
theorem dX4_accepted_1 : decode cX4_accepted 1 = .ok (.iload_n 1, 1) := by decide +kernel
theorem dX4_accepted_2 : decode cX4_accepted 2 = .ok (.invokevirtual 124, 3) := by decide +kernel
theorem dX4_accepted_5 : decode cX4_accepted 5 = .ok (.ifCond .ne 5, 3) := by decide +kernel
theorem dX4_accepted_8 : decode cX4_accepted 8 = .ok (.iconst 0, 1) := by decide +kernel
theorem dX4_accepted_9 : decode cX4_accepted 9 = .ok (.ireturn, 1) := by decide +kernel
theorem dX4_accepted_10 : decode cX4_accepted 10 = .ok (.iload_n 2, 1) := by decide +kernel
theorem dX4_accepted_11 : decode cX4_accepted 11 = .ok (.ifCond .eq 10, 3) := by decide +kernel
theorem dX4_accepted_14 : decode cX4_accepted 14 = .ok (.aload_n 0, 1) := by decide +kernel
theorem dX4_accepted_15 : decode cX4_accepted 15 = .ok (.getfield 62, 3) := by decide +kernel
theorem dX4_accepted_18 : decode cX4_accepted 18 = .ok (.goto 4, 3) := by decide +kernel
theorem dX4_accepted_21 : decode cX4_accepted 21 = .ok (.iconst 0, 1) := by decide +kernel
theorem dX4_accepted_22 : decode cX4_accepted 22 = .ok (.istore_n 3, 1) := by decide +kernel
theorem dX4_accepted_23 : decode cX4_accepted 23 = .ok (.iconst 0, 1) := by decide +kernel
theorem dX4_accepted_24 : decode cX4_accepted 24 = .ok (.istore 4, 2) := by decide +kernel
theorem dX4_accepted_26 : decode cX4_accepted 26 = .ok (.iload 4, 2) := by decide +kernel
theorem dX4_accepted_28 : decode cX4_accepted 28 = .ok (.aload_n 0, 1) := by decide +kernel
theorem dX4_accepted_29 : decode cX4_accepted 29 = .ok (.getfield 20, 3) := by decide +kernel
theorem dX4_accepted_32 : decode cX4_accepted 32 = .ok (.iload_n 1, 1) := by decide +kernel
theorem dX4_accepted_33 : decode cX4_accepted 33 = .ok (.iaload, 1) := by decide +kernel
theorem dX4_accepted_34 : decode cX4_accepted 34 = .ok (.if_icmp .ge 47, 3) := by decide +kernel
theorem dX4_accepted_37 : decode cX4_accepted 37 = .ok (.iload_n 2, 1) := by decide +kernel
theorem dX4_accepted_38 : decode cX4_accepted 38 = .ok (.ifCond .eq 21, 3) := by decide +kernel
theorem dX4_accepted_41 : decode cX4_accepted 41 = .ok (.iload_n 3, 1) := by decide +kernel
theorem dX4_accepted_42 : decode cX4_accepted 42 = .ok (.aload_n 0, 1) := by decide +kernel
theorem dX4_accepted_43 : decode cX4_accepted 43 = .ok (.getfield 23, 3) := by decide +kernel
theorem dX4_accepted_46 : decode cX4_accepted 46 = .ok (.sipush 4096, 3) := by decide +kernel
theorem dX4_accepted_49 : decode cX4_accepted 49 = .ok (.iload_n 1, 1) := by decide +kernel
theorem dX4_accepted_50 : decode cX4_accepted 50 = .ok (.imul, 1) := by decide +kernel
theorem dX4_accepted_51 : decode cX4_accepted 51 = .ok (.iload 4, 2) := by decide +kernel
theorem dX4_accepted_53 : decode cX4_accepted 53 = .ok (.iadd, 1) := by decide +kernel
theorem dX4_accepted_54 : decode cX4_accepted 54 = .ok (.iaload, 1) := by decide +kernel
theorem dX4_accepted_55 : decode cX4_accepted 55 = .ok (.iand, 1) := by decide +kernel
theorem dX4_accepted_56 : decode cX4_accepted 56 = .ok (.goto 18, 3) := by decide +kernel
theorem dX4_accepted_59 : decode cX4_accepted 59 = .ok (.iload_n 3, 1) := by decide +kernel
theorem dX4_accepted_60 : decode cX4_accepted 60 = .ok (.aload_n 0, 1) := by decide +kernel
theorem dX4_accepted_61 : decode cX4_accepted 61 = .ok (.getfield 23, 3) := by decide +kernel
theorem dX4_accepted_64 : decode cX4_accepted 64 = .ok (.sipush 4096, 3) := by decide +kernel
theorem dX4_accepted_67 : decode cX4_accepted 67 = .ok (.iload_n 1, 1) := by decide +kernel
theorem dX4_accepted_68 : decode cX4_accepted 68 = .ok (.imul, 1) := by decide +kernel
theorem dX4_accepted_69 : decode cX4_accepted 69 = .ok (.iload 4, 2) := by decide +kernel
theorem dX4_accepted_71 : decode cX4_accepted 71 = .ok (.iadd, 1) := by decide +kernel
theorem dX4_accepted_72 : decode cX4_accepted 72 = .ok (.iaload, 1) := by decide +kernel
theorem dX4_accepted_73 : decode cX4_accepted 73 = .ok (.ior, 1) := by decide +kernel
theorem dX4_accepted_74 : decode cX4_accepted 74 = .ok (.istore_n 3, 1) := by decide +kernel
theorem dX4_accepted_75 : decode cX4_accepted 75 = .ok (.iinc 4 1, 3) := by decide +kernel
theorem dX4_accepted_78 : decode cX4_accepted 78 = .ok (.goto (-52), 3) := by decide +kernel
theorem dX4_accepted_81 : decode cX4_accepted 81 = .ok (.iload_n 3, 1) := by decide +kernel
theorem dX4_accepted_82 : decode cX4_accepted 82 = .ok (.ireturn, 1) := by decide +kernel
set_option maxRecDepth 20000 in
theorem ggX4_weightOf_X4_has : GoodIn wsX4_weightOf wsX4_has := goodIn_r _ [6] (by decide +kernel) (by decide +kernel)
set_option maxRecDepth 20000 in
theorem gX4_weightOf_X4_has : GoodIn wsX4_weightOf (va_wsS RX4 71 yX4_has wsX4_has) := goodIn_app (goodIn_of _ (by decide +kernel)) ggX4_weightOf_X4_has
theorem dX4_weightOf_0 : decode cX4_weightOf 0 = .ok (.iconst 0, 1) := by decide +kernel
theorem dX4_weightOf_1 : decode cX4_weightOf 1 = .ok (.istore_n 2, 1) := by decide +kernel
theorem dX4_weightOf_2 : decode cX4_weightOf 2 = .ok (.iconst 0, 1) := by decide +kernel
theorem dX4_weightOf_3 : decode cX4_weightOf 3 = .ok (.istore_n 3, 1) := by decide +kernel
theorem dX4_weightOf_4 : decode cX4_weightOf 4 = .ok (.iload_n 3, 1) := by decide +kernel
theorem dX4_weightOf_5 : decode cX4_weightOf 5 = .ok (.aload_n 0, 1) := by decide +kernel
theorem dX4_weightOf_6 : decode cX4_weightOf 6 = .ok (.getfield 47, 3) := by decide +kernel
theorem dX4_weightOf_9 : decode cX4_weightOf 9 = .ok (.if_icmp .ge 30, 3) := by decide +kernel
theorem dX4_weightOf_12 : decode cX4_weightOf 12 = .ok (.iload_n 2, 1) := by decide +kernel
theorem dX4_weightOf_13 : decode cX4_weightOf 13 = .ok (.iload_n 1, 1) := by decide +kernel
theorem dX4_weightOf_14 : decode cX4_weightOf 14 = .ok (.iload_n 3, 1) := by decide +kernel
theorem dX4_weightOf_15 : decode cX4_weightOf 15 = .ok (.invokestatic 71, 3) := by decide +kernel
theorem dX4_weightOf_18 : decode cX4_weightOf 18 = .ok (.ifCond .eq 12, 3) := by decide +kernel
theorem dX4_weightOf_21 : decode cX4_weightOf 21 = .ok (.aload_n 0, 1) := by decide +kernel
theorem dX4_weightOf_22 : decode cX4_weightOf 22 = .ok (.getfield 9, 3) := by decide +kernel
theorem dX4_weightOf_25 : decode cX4_weightOf 25 = .ok (.iload_n 3, 1) := by decide +kernel
theorem dX4_weightOf_26 : decode cX4_weightOf 26 = .ok (.iaload, 1) := by decide +kernel
theorem dX4_weightOf_27 : decode cX4_weightOf 27 = .ok (.goto 4, 3) := by decide +kernel
theorem dX4_weightOf_30 : decode cX4_weightOf 30 = .ok (.iconst 0, 1) := by decide +kernel
theorem dX4_weightOf_31 : decode cX4_weightOf 31 = .ok (.iadd, 1) := by decide +kernel
theorem dX4_weightOf_32 : decode cX4_weightOf 32 = .ok (.istore_n 2, 1) := by decide +kernel
theorem dX4_weightOf_33 : decode cX4_weightOf 33 = .ok (.iinc 3 1, 3) := by decide +kernel
theorem dX4_weightOf_36 : decode cX4_weightOf 36 = .ok (.goto (-32), 3) := by decide +kernel
theorem dX4_weightOf_39 : decode cX4_weightOf 39 = .ok (.iload_n 2, 1) := by decide +kernel
theorem dX4_weightOf_40 : decode cX4_weightOf 40 = .ok (.ireturn, 1) := by decide +kernel
set_option maxRecDepth 20000 in
theorem ggX4_heaviest_X4_asks : GoodIn wsX4_heaviest wsX4_asks := goodIn_r _ [7, 8, 9, 10, 11, 6, 12, 13, 1, 14, 15, 16, 17, 18, 19, 20, 21, 22, 23, 24, 25, 26, 27, 28, 29, 30, 31, 32, 33, 34, 35, 36, 37, 38, 39, 40, 41, 42, 43, 44, 45, 46, 47, 48, 49, 50, 51, 52, 53, 54, 55, 56, 57, 58, 59, 60, 61, 2, 62, 63, 64, 65, 66, 67, 68, 69, 70, 71, 72, 73, 74, 75, 76, 77, 78, 79, 80, 85, 86, 87, 88, 89, 90, 91, 92, 93, 94, 95, 96, 97, 98] (by decide +kernel) (by decide +kernel)
set_option maxRecDepth 20000 in
theorem gX4_heaviest_X4_asks : GoodIn wsX4_heaviest (wsV RX4 124 RX4 yX4_asks wsX4_asks) := goodIn_app (goodIn_of _ (by decide +kernel)) ggX4_heaviest_X4_asks
set_option maxRecDepth 20000 in
theorem ggX4_heaviest_X4_weightOf : GoodIn wsX4_heaviest wsX4_weightOf := goodIn_r _ [84, 14, 33, 35, 36, 6, 37, 85, 86, 87, 88, 89, 90, 91, 92, 93, 94, 95, 96, 97, 98] (by decide +kernel) (by decide +kernel)
set_option maxRecDepth 20000 in
theorem gX4_heaviest_X4_weightOf : GoodIn wsX4_heaviest (wsV RX4 127 RX4 yX4_weightOf wsX4_weightOf) := goodIn_app (goodIn_of _ (by decide +kernel)) ggX4_heaviest_X4_weightOf
theorem dX4_heaviest_0 : decode cX4_heaviest 0 = .ok (.aload_n 0, 1) := by decide +kernel
theorem dX4_heaviest_1 : decode cX4_heaviest 1 = .ok (.iload_n 1, 1) := by decide +kernel
theorem dX4_heaviest_2 : decode cX4_heaviest 2 = .ok (.invokevirtual 124, 3) := by decide +kernel
theorem dX4_heaviest_5 : decode cX4_heaviest 5 = .ok (.ifCond .ne 5, 3) := by decide +kernel
theorem dX4_heaviest_8 : decode cX4_heaviest 8 = .ok (.iconst 0, 1) := by decide +kernel
theorem dX4_heaviest_9 : decode cX4_heaviest 9 = .ok (.ireturn, 1) := by decide +kernel
theorem dX4_heaviest_10 : decode cX4_heaviest 10 = .ok (.iconst (-1), 1) := by decide +kernel
theorem dX4_heaviest_11 : decode cX4_heaviest 11 = .ok (.istore_n 2, 1) := by decide +kernel
theorem dX4_heaviest_12 : decode cX4_heaviest 12 = .ok (.iconst 0, 1) := by decide +kernel
theorem dX4_heaviest_13 : decode cX4_heaviest 13 = .ok (.istore_n 3, 1) := by decide +kernel
theorem dX4_heaviest_14 : decode cX4_heaviest 14 = .ok (.iload_n 3, 1) := by decide +kernel
theorem dX4_heaviest_15 : decode cX4_heaviest 15 = .ok (.aload_n 0, 1) := by decide +kernel
theorem dX4_heaviest_16 : decode cX4_heaviest 16 = .ok (.getfield 20, 3) := by decide +kernel
theorem dX4_heaviest_19 : decode cX4_heaviest 19 = .ok (.iload_n 1, 1) := by decide +kernel
theorem dX4_heaviest_20 : decode cX4_heaviest 20 = .ok (.iaload, 1) := by decide +kernel
theorem dX4_heaviest_21 : decode cX4_heaviest 21 = .ok (.if_icmp .ge 45, 3) := by decide +kernel
theorem dX4_heaviest_24 : decode cX4_heaviest 24 = .ok (.aload_n 0, 1) := by decide +kernel
theorem dX4_heaviest_25 : decode cX4_heaviest 25 = .ok (.getfield 23, 3) := by decide +kernel
theorem dX4_heaviest_28 : decode cX4_heaviest 28 = .ok (.sipush 4096, 3) := by decide +kernel
theorem dX4_heaviest_31 : decode cX4_heaviest 31 = .ok (.iload_n 1, 1) := by decide +kernel
theorem dX4_heaviest_32 : decode cX4_heaviest 32 = .ok (.imul, 1) := by decide +kernel
theorem dX4_heaviest_33 : decode cX4_heaviest 33 = .ok (.iload_n 3, 1) := by decide +kernel
theorem dX4_heaviest_34 : decode cX4_heaviest 34 = .ok (.iadd, 1) := by decide +kernel
theorem dX4_heaviest_35 : decode cX4_heaviest 35 = .ok (.iaload, 1) := by decide +kernel
theorem dX4_heaviest_36 : decode cX4_heaviest 36 = .ok (.istore 4, 2) := by decide +kernel
theorem dX4_heaviest_38 : decode cX4_heaviest 38 = .ok (.iload_n 2, 1) := by decide +kernel
theorem dX4_heaviest_39 : decode cX4_heaviest 39 = .ok (.iconst (-1), 1) := by decide +kernel
theorem dX4_heaviest_40 : decode cX4_heaviest 40 = .ok (.if_icmp .eq 17, 3) := by decide +kernel
theorem dX4_heaviest_43 : decode cX4_heaviest 43 = .ok (.aload_n 0, 1) := by decide +kernel
theorem dX4_heaviest_44 : decode cX4_heaviest 44 = .ok (.iload 4, 2) := by decide +kernel
theorem dX4_heaviest_46 : decode cX4_heaviest 46 = .ok (.invokevirtual 127, 3) := by decide +kernel
theorem dX4_heaviest_49 : decode cX4_heaviest 49 = .ok (.aload_n 0, 1) := by decide +kernel
theorem dX4_heaviest_50 : decode cX4_heaviest 50 = .ok (.iload_n 2, 1) := by decide +kernel
theorem dX4_heaviest_51 : decode cX4_heaviest 51 = .ok (.invokevirtual 127, 3) := by decide +kernel
theorem dX4_heaviest_54 : decode cX4_heaviest 54 = .ok (.if_icmp .le 6, 3) := by decide +kernel
theorem dX4_heaviest_57 : decode cX4_heaviest 57 = .ok (.iload 4, 2) := by decide +kernel
theorem dX4_heaviest_59 : decode cX4_heaviest 59 = .ok (.istore_n 2, 1) := by decide +kernel
theorem dX4_heaviest_60 : decode cX4_heaviest 60 = .ok (.iinc 3 1, 3) := by decide +kernel
theorem dX4_heaviest_63 : decode cX4_heaviest 63 = .ok (.goto (-49), 3) := by decide +kernel
theorem dX4_heaviest_66 : decode cX4_heaviest 66 = .ok (.iload_n 2, 1) := by decide +kernel
theorem dX4_heaviest_67 : decode cX4_heaviest 67 = .ok (.ireturn, 1) := by decide +kernel
set_option maxRecDepth 20000 in
theorem ggX4_support_X4_isArgument : GoodIn wsX4_support wsX4_isArgument := goodIn_r _ [8, 9, 81, 82, 83, 84, 85, 86, 87, 88, 89, 90, 91, 92, 93, 94] (by decide +kernel) (by decide +kernel)
set_option maxRecDepth 20000 in
theorem gX4_support_X4_isArgument : GoodIn wsX4_support (wsV RX4 68 RX4 yX4_isArgument wsX4_isArgument) := goodIn_app (goodIn_of _ (by decide +kernel)) ggX4_support_X4_isArgument
set_option maxRecDepth 20000 in
theorem ggX4_support_X4_know : GoodIn wsX4_support wsX4_know := goodIn_r _ [13, 14, 2, 9, 15, 16, 17, 18, 19, 20, 7, 21, 22, 23, 24, 25, 26, 27, 28, 29, 30, 31, 32, 33, 34, 35, 36, 37, 38, 39, 40, 41, 42, 43, 44, 45, 46, 47, 48, 49, 50, 51, 52, 53, 54, 55, 56, 57, 58, 59, 60, 61, 3, 62, 63, 64, 65, 66, 67, 68, 69, 70, 71, 72, 73, 74, 75, 76, 77, 78, 79, 80, 81, 82, 83, 84, 85, 86, 87, 88, 89, 90, 91, 92, 93, 94] (by decide +kernel) (by decide +kernel)
set_option maxRecDepth 20000 in
theorem gX4_support_X4_know : GoodIn wsX4_support (wsV RX4 121 RX4 yX4_know wsX4_know) := goodIn_app (goodIn_of _ (by decide +kernel)) ggX4_support_X4_know
set_option maxRecDepth 20000 in
theorem ggX4_support_X4_has : GoodIn wsX4_support wsX4_has := goodIn_r _ [37] (by decide +kernel) (by decide +kernel)
set_option maxRecDepth 20000 in
theorem gX4_support_X4_has : GoodIn wsX4_support (va_wsS RX4 71 yX4_has wsX4_has) := goodIn_app (goodIn_of _ (by decide +kernel)) ggX4_support_X4_has
theorem dX4_support_0 : decode cX4_support 0 = .ok (.aload_n 0, 1) := by decide +kernel
theorem dX4_support_1 : decode cX4_support 1 = .ok (.aload_n 0, 1) := by decide +kernel
theorem dX4_support_2 : decode cX4_support 2 = .ok (.iload_n 1, 1) := by decide +kernel
theorem dX4_support_3 : decode cX4_support 3 = .ok (.invokevirtual 68, 3) := by decide +kernel
theorem dX4_support_6 : decode cX4_support 6 = .ok (.ifCond .eq 7, 3) := by decide +kernel
theorem dX4_support_9 : decode cX4_support 9 = .ok (.iconst 0, 1) := by decide +kernel
theorem dX4_support_10 : decode cX4_support 10 = .ok (.goto 4, 3) := by decide +kernel
theorem dX4_support_13 : decode cX4_support 13 = .ok (.iconst 1, 1) := by decide +kernel
theorem dX4_support_14 : decode cX4_support 14 = .ok (.putfield 44, 3) := by decide +kernel
theorem dX4_support_17 : decode cX4_support 17 = .ok (.aload_n 0, 1) := by decide +kernel
theorem dX4_support_18 : decode cX4_support 18 = .ok (.getfield 44, 3) := by decide +kernel
theorem dX4_support_21 : decode cX4_support 21 = .ok (.ifCond .eq 5, 3) := by decide +kernel
theorem dX4_support_24 : decode cX4_support 24 = .ok (.dconst 0, 1) := by decide +kernel
theorem dX4_support_25 : decode cX4_support 25 = .ok (.dreturn, 1) := by decide +kernel
theorem dX4_support_26 : decode cX4_support 26 = .ok (.aload_n 0, 1) := by decide +kernel
theorem dX4_support_27 : decode cX4_support 27 = .ok (.invokevirtual 121, 3) := by decide +kernel
theorem dX4_support_30 : decode cX4_support 30 = .ok (.iconst 0, 1) := by decide +kernel
theorem dX4_support_31 : decode cX4_support 31 = .ok (.istore_n 2, 1) := by decide +kernel
theorem dX4_support_32 : decode cX4_support 32 = .ok (.iconst 0, 1) := by decide +kernel
theorem dX4_support_33 : decode cX4_support 33 = .ok (.istore_n 3, 1) := by decide +kernel
theorem dX4_support_34 : decode cX4_support 34 = .ok (.iload_n 3, 1) := by decide +kernel
theorem dX4_support_35 : decode cX4_support 35 = .ok (.aload_n 0, 1) := by decide +kernel
theorem dX4_support_36 : decode cX4_support 36 = .ok (.getfield 20, 3) := by decide +kernel
theorem dX4_support_39 : decode cX4_support 39 = .ok (.iconst 0, 1) := by decide +kernel
theorem dX4_support_40 : decode cX4_support 40 = .ok (.iaload, 1) := by decide +kernel
theorem dX4_support_41 : decode cX4_support 41 = .ok (.if_icmp .ge 32, 3) := by decide +kernel
theorem dX4_support_44 : decode cX4_support 44 = .ok (.iload_n 2, 1) := by decide +kernel
theorem dX4_support_45 : decode cX4_support 45 = .ok (.aload_n 0, 1) := by decide +kernel
theorem dX4_support_46 : decode cX4_support 46 = .ok (.getfield 23, 3) := by decide +kernel
theorem dX4_support_49 : decode cX4_support 49 = .ok (.iconst 0, 1) := by decide +kernel
theorem dX4_support_50 : decode cX4_support 50 = .ok (.iload_n 3, 1) := by decide +kernel
theorem dX4_support_51 : decode cX4_support 51 = .ok (.iadd, 1) := by decide +kernel
theorem dX4_support_52 : decode cX4_support 52 = .ok (.iaload, 1) := by decide +kernel
theorem dX4_support_53 : decode cX4_support 53 = .ok (.iload_n 1, 1) := by decide +kernel
theorem dX4_support_54 : decode cX4_support 54 = .ok (.invokestatic 71, 3) := by decide +kernel
theorem dX4_support_57 : decode cX4_support 57 = .ok (.ifCond .eq 7, 3) := by decide +kernel
theorem dX4_support_60 : decode cX4_support 60 = .ok (.iconst 1, 1) := by decide +kernel
theorem dX4_support_61 : decode cX4_support 61 = .ok (.goto 4, 3) := by decide +kernel
theorem dX4_support_64 : decode cX4_support 64 = .ok (.iconst 0, 1) := by decide +kernel
theorem dX4_support_65 : decode cX4_support 65 = .ok (.iadd, 1) := by decide +kernel
theorem dX4_support_66 : decode cX4_support 66 = .ok (.istore_n 2, 1) := by decide +kernel
theorem dX4_support_67 : decode cX4_support 67 = .ok (.iinc 3 1, 3) := by decide +kernel
theorem dX4_support_70 : decode cX4_support 70 = .ok (.goto (-36), 3) := by decide +kernel
theorem dX4_support_73 : decode cX4_support 73 = .ok (.iload_n 2, 1) := by decide +kernel
theorem dX4_support_74 : decode cX4_support 74 = .ok (.i2d, 1) := by decide +kernel
theorem dX4_support_75 : decode cX4_support 75 = .ok (.aload_n 0, 1) := by decide +kernel
theorem dX4_support_76 : decode cX4_support 76 = .ok (.getfield 20, 3) := by decide +kernel
theorem dX4_support_79 : decode cX4_support 79 = .ok (.iconst 0, 1) := by decide +kernel
theorem dX4_support_80 : decode cX4_support 80 = .ok (.iaload, 1) := by decide +kernel
theorem dX4_support_81 : decode cX4_support 81 = .ok (.i2d, 1) := by decide +kernel
theorem dX4_support_82 : decode cX4_support 82 = .ok (.ddiv, 1) := by decide +kernel
theorem dX4_support_83 : decode cX4_support 83 = .ok (.dreturn, 1) := by decide +kernel
set_option maxRecDepth 20000 in
theorem ggX4_round_X4_isArgument : GoodIn wsX4_round wsX4_isArgument := goodIn_r _ [6, 7, 49, 50, 51, 52, 53, 54, 55, 56, 57, 58, 59, 60, 61, 62] (by decide +kernel) (by decide +kernel)
set_option maxRecDepth 20000 in
theorem gX4_round_X4_isArgument : GoodIn wsX4_round (wsV RX4 68 RX4 yX4_isArgument wsX4_isArgument) := goodIn_app (goodIn_of _ (by decide +kernel)) ggX4_round_X4_isArgument
set_option maxRecDepth 20000 in
theorem ggX4_round_X4_fail : GoodIn wsX4_round wsX4_fail := goodIn_r _ [11, 1, 49, 50, 51, 52, 53, 54, 55, 56, 57, 58, 59, 60, 61, 62] (by decide +kernel) (by decide +kernel)
set_option maxRecDepth 20000 in
theorem gX4_round_X4_fail : GoodIn wsX4_round (wsV RX4 58 RX4 yX4_fail wsX4_fail) := goodIn_app (goodIn_of _ (by decide +kernel)) ggX4_round_X4_fail
set_option maxRecDepth 20000 in
theorem ggX4_round_X4_look : GoodIn wsX4_round wsX4_look := goodIn_r _ [15, 7, 16, 17, 18, 19, 20, 5, 21, 22, 23, 24, 25, 26, 27, 28, 29, 30, 31, 32, 33, 34, 35, 36, 49, 50, 51, 52, 53, 54, 55, 56, 57, 58, 59, 60, 61, 62] (by decide +kernel) (by decide +kernel)
set_option maxRecDepth 20000 in
theorem gX4_round_X4_look : GoodIn wsX4_round (wsV RX4 101 RX4 yX4_look wsX4_look) := goodIn_app (goodIn_of _ (by decide +kernel)) ggX4_round_X4_look
set_option maxRecDepth 20000 in
theorem ggX4_round_X4_groundedBehind : GoodIn wsX4_round wsX4_groundedBehind := goodIn_r _ [40, 41, 42, 43, 5, 44, 7, 26, 16, 45, 46, 47, 48, 17, 30, 31, 32, 49, 50, 51, 52, 53, 54, 55, 56, 57, 58, 59, 60, 61, 62] (by decide +kernel) (by decide +kernel)
set_option maxRecDepth 20000 in
theorem gX4_round_X4_groundedBehind : GoodIn wsX4_round (wsV RX4 114 RX4 yX4_groundedBehind wsX4_groundedBehind) := goodIn_app (goodIn_of _ (by decide +kernel)) ggX4_round_X4_groundedBehind
set_option maxRecDepth 20000 in
theorem ggX4_round_X4_has : GoodIn wsX4_round wsX4_has := goodIn_r _ [32] (by decide +kernel) (by decide +kernel)
set_option maxRecDepth 20000 in
theorem gX4_round_X4_has : GoodIn wsX4_round (va_wsS RX4 71 yX4_has wsX4_has) := goodIn_app (goodIn_of _ (by decide +kernel)) ggX4_round_X4_has
theorem dX4_round_0 : decode cX4_round 0 = .ok (.aload_n 0, 1) := by decide +kernel
theorem dX4_round_1 : decode cX4_round 1 = .ok (.iconst 0, 1) := by decide +kernel
theorem dX4_round_2 : decode cX4_round 2 = .ok (.putfield 44, 3) := by decide +kernel
theorem dX4_round_5 : decode cX4_round 5 = .ok (.aload_n 0, 1) := by decide +kernel
theorem dX4_round_6 : decode cX4_round 6 = .ok (.iload_n 1, 1) := by decide +kernel
theorem dX4_round_7 : decode cX4_round 7 = .ok (.invokevirtual 68, 3) := by decide +kernel
theorem dX4_round_10 : decode cX4_round 10 = .ok (.ifCond .ne 9, 3) := by decide +kernel
theorem dX4_round_13 : decode cX4_round 13 = .ok (.aload_n 0, 1) := by decide +kernel
theorem dX4_round_14 : decode cX4_round 14 = .ok (.iconst 1, 1) := by decide +kernel
theorem dX4_round_15 : decode cX4_round 15 = .ok (.invokevirtual 58, 3) := by decide +kernel
theorem dX4_round_18 : decode cX4_round 18 = .ok (.ireturn, 1) := by decide +kernel
theorem dX4_round_19 : decode cX4_round 19 = .ok (.aload_n 0, 1) := by decide +kernel
theorem dX4_round_20 : decode cX4_round 20 = .ok (.invokevirtual 101, 3) := by decide +kernel
theorem dX4_round_23 : decode cX4_round 23 = .ok (.iconst 1, 1) := by decide +kernel
theorem dX4_round_24 : decode cX4_round 24 = .ok (.istore_n 2, 1) := by decide +kernel
theorem dX4_round_25 : decode cX4_round 25 = .ok (.iload_n 2, 1) := by decide +kernel
theorem dX4_round_26 : decode cX4_round 26 = .ok (.bipush 12, 2) := by decide +kernel
theorem dX4_round_28 : decode cX4_round 28 = .ok (.if_icmp .gt 23, 3) := by decide +kernel
theorem dX4_round_31 : decode cX4_round 31 = .ok (.aload_n 0, 1) := by decide +kernel
theorem dX4_round_32 : decode cX4_round 32 = .ok (.iload_n 2, 1) := by decide +kernel
theorem dX4_round_33 : decode cX4_round 33 = .ok (.invokevirtual 114, 3) := by decide +kernel
theorem dX4_round_36 : decode cX4_round 36 = .ok (.iload_n 1, 1) := by decide +kernel
theorem dX4_round_37 : decode cX4_round 37 = .ok (.invokestatic 71, 3) := by decide +kernel
theorem dX4_round_40 : decode cX4_round 40 = .ok (.ifCond .eq 5, 3) := by decide +kernel
theorem dX4_round_43 : decode cX4_round 43 = .ok (.iload_n 2, 1) := by decide +kernel
theorem dX4_round_44 : decode cX4_round 44 = .ok (.ireturn, 1) := by decide +kernel
theorem dX4_round_45 : decode cX4_round 45 = .ok (.iinc 2 1, 3) := by decide +kernel
theorem dX4_round_48 : decode cX4_round 48 = .ok (.goto (-23), 3) := by decide +kernel
theorem dX4_round_51 : decode cX4_round 51 = .ok (.iconst 0, 1) := by decide +kernel
theorem dX4_round_52 : decode cX4_round 52 = .ok (.ireturn, 1) := by decide +kernel
set_option maxRecDepth 20000 in
theorem ggX4_rounds_X4_look : GoodIn wsX4_rounds wsX4_look := goodIn_r _ [6, 7, 8, 9, 10, 11, 12, 5, 13, 14, 15, 16, 17, 18, 19, 20, 21, 22, 23, 24, 25, 26, 27, 28, 41, 42, 43, 44, 45, 46, 47, 48, 49, 50, 51, 52, 53, 54] (by decide +kernel) (by decide +kernel)
set_option maxRecDepth 20000 in
theorem gX4_rounds_X4_look : GoodIn wsX4_rounds (wsV RX4 101 RX4 yX4_look wsX4_look) := goodIn_app (goodIn_of _ (by decide +kernel)) ggX4_rounds_X4_look
set_option maxRecDepth 20000 in
theorem ggX4_rounds_X4_groundedBehind : GoodIn wsX4_rounds wsX4_groundedBehind := goodIn_r _ [32, 33, 34, 35, 5, 36, 7, 18, 8, 37, 38, 39, 40, 9, 22, 23, 24, 41, 42, 43, 44, 45, 46, 47, 48, 49, 50, 51, 52, 53, 54] (by decide +kernel) (by decide +kernel)
set_option maxRecDepth 20000 in
theorem gX4_rounds_X4_groundedBehind : GoodIn wsX4_rounds (wsV RX4 114 RX4 yX4_groundedBehind wsX4_groundedBehind) := goodIn_app (goodIn_of _ (by decide +kernel)) ggX4_rounds_X4_groundedBehind
theorem dX4_rounds_0 : decode cX4_rounds 0 = .ok (.aload_n 0, 1) := by decide +kernel
theorem dX4_rounds_1 : decode cX4_rounds 1 = .ok (.iconst 0, 1) := by decide +kernel
theorem dX4_rounds_2 : decode cX4_rounds 2 = .ok (.putfield 44, 3) := by decide +kernel
theorem dX4_rounds_5 : decode cX4_rounds 5 = .ok (.aload_n 0, 1) := by decide +kernel
theorem dX4_rounds_6 : decode cX4_rounds 6 = .ok (.invokevirtual 101, 3) := by decide +kernel
theorem dX4_rounds_9 : decode cX4_rounds 9 = .ok (.iconst 0, 1) := by decide +kernel
theorem dX4_rounds_10 : decode cX4_rounds 10 = .ok (.istore_n 1, 1) := by decide +kernel
theorem dX4_rounds_11 : decode cX4_rounds 11 = .ok (.aload_n 0, 1) := by decide +kernel
theorem dX4_rounds_12 : decode cX4_rounds 12 = .ok (.iload_n 1, 1) := by decide +kernel
theorem dX4_rounds_13 : decode cX4_rounds 13 = .ok (.iconst 1, 1) := by decide +kernel
theorem dX4_rounds_14 : decode cX4_rounds 14 = .ok (.iadd, 1) := by decide +kernel
theorem dX4_rounds_15 : decode cX4_rounds 15 = .ok (.invokevirtual 114, 3) := by decide +kernel
theorem dX4_rounds_18 : decode cX4_rounds 18 = .ok (.aload_n 0, 1) := by decide +kernel
theorem dX4_rounds_19 : decode cX4_rounds 19 = .ok (.iload_n 1, 1) := by decide +kernel
theorem dX4_rounds_20 : decode cX4_rounds 20 = .ok (.invokevirtual 114, 3) := by decide +kernel
theorem dX4_rounds_23 : decode cX4_rounds 23 = .ok (.if_icmp .eq 9, 3) := by decide +kernel
theorem dX4_rounds_26 : decode cX4_rounds 26 = .ok (.iinc 1 1, 3) := by decide +kernel
theorem dX4_rounds_29 : decode cX4_rounds 29 = .ok (.goto (-18), 3) := by decide +kernel
theorem dX4_rounds_32 : decode cX4_rounds 32 = .ok (.iload_n 1, 1) := by decide +kernel
theorem dX4_rounds_33 : decode cX4_rounds 33 = .ok (.ireturn, 1) := by decide +kernel
set_option maxRecDepth 20000 in
theorem ggX4_firstWins_X4_has : GoodIn wsX4_firstWins wsX4_has := goodIn_r _ [7] (by decide +kernel) (by decide +kernel)
set_option maxRecDepth 20000 in
theorem gX4_firstWins_X4_has : GoodIn wsX4_firstWins (va_wsS RX4 71 yX4_has wsX4_has) := goodIn_app (goodIn_of _ (by decide +kernel)) ggX4_firstWins_X4_has
set_option maxRecDepth 20000 in
theorem ggX4_firstWins_X4_firstWins : GoodIn wsX4_firstWins wsX4_firstWins := goodIn_r _ [0, 1, 2, 3, 4, 5, 6, 7, 8, 9, 10, 11, 12, 13, 14, 15, 16, 17, 18, 19, 20, 21, 22, 23, 24] (by decide +kernel) (by decide +kernel)
set_option maxRecDepth 20000 in
theorem gX4_firstWins_X4_firstWins : GoodIn wsX4_firstWins (wsV RX4 130 RX4 yX4_firstWins wsX4_firstWins) := goodIn_app (goodIn_of _ (by decide +kernel)) ggX4_firstWins_X4_firstWins
theorem dX4_firstWins_0 : decode cX4_firstWins 0 = .ok (.iload_n 1, 1) := by decide +kernel
theorem dX4_firstWins_1 : decode cX4_firstWins 1 = .ok (.ifCond .eq 8, 3) := by decide +kernel
theorem dX4_firstWins_4 : decode cX4_firstWins 4 = .ok (.bipush 12, 2) := by decide +kernel
theorem dX4_firstWins_6 : decode cX4_firstWins 6 = .ok (.goto 4, 3) := by decide +kernel
theorem dX4_firstWins_9 : decode cX4_firstWins 9 = .ok (.iconst 0, 1) := by decide +kernel
theorem dX4_firstWins_10 : decode cX4_firstWins 10 = .ok (.iload_n 2, 1) := by decide +kernel
theorem dX4_firstWins_11 : decode cX4_firstWins 11 = .ok (.iadd, 1) := by decide +kernel
theorem dX4_firstWins_12 : decode cX4_firstWins 12 = .ok (.sipush 4096, 3) := by decide +kernel
theorem dX4_firstWins_15 : decode cX4_firstWins 15 = .ok (.imul, 1) := by decide +kernel
theorem dX4_firstWins_16 : decode cX4_firstWins 16 = .ok (.iload_n 3, 1) := by decide +kernel
theorem dX4_firstWins_17 : decode cX4_firstWins 17 = .ok (.iadd, 1) := by decide +kernel
theorem dX4_firstWins_18 : decode cX4_firstWins 18 = .ok (.istore 4, 2) := by decide +kernel
theorem dX4_firstWins_20 : decode cX4_firstWins 20 = .ok (.aload_n 0, 1) := by decide +kernel
theorem dX4_firstWins_21 : decode cX4_firstWins 21 = .ok (.getfield 40, 3) := by decide +kernel
theorem dX4_firstWins_24 : decode cX4_firstWins 24 = .ok (.iload 4, 2) := by decide +kernel
theorem dX4_firstWins_26 : decode cX4_firstWins 26 = .ok (.baload, 1) := by decide +kernel
theorem dX4_firstWins_27 : decode cX4_firstWins 27 = .ok (.ifCond .ne 150, 3) := by decide +kernel
theorem dX4_firstWins_30 : decode cX4_firstWins 30 = .ok (.iload_n 1, 1) := by decide +kernel
theorem dX4_firstWins_31 : decode cX4_firstWins 31 = .ok (.ifCond .eq 16, 3) := by decide +kernel
theorem dX4_firstWins_34 : decode cX4_firstWins 34 = .ok (.aload_n 0, 1) := by decide +kernel
theorem dX4_firstWins_35 : decode cX4_firstWins 35 = .ok (.getfield 26, 3) := by decide +kernel
theorem dX4_firstWins_38 : decode cX4_firstWins 38 = .ok (.iload_n 2, 1) := by decide +kernel
theorem dX4_firstWins_39 : decode cX4_firstWins 39 = .ok (.iaload, 1) := by decide +kernel
theorem dX4_firstWins_40 : decode cX4_firstWins 40 = .ok (.iload_n 3, 1) := by decide +kernel
theorem dX4_firstWins_41 : decode cX4_firstWins 41 = .ok (.iconst (-1), 1) := by decide +kernel
theorem dX4_firstWins_42 : decode cX4_firstWins 42 = .ok (.ixor, 1) := by decide +kernel
theorem dX4_firstWins_43 : decode cX4_firstWins 43 = .ok (.iand, 1) := by decide +kernel
theorem dX4_firstWins_44 : decode cX4_firstWins 44 = .ok (.goto 9, 3) := by decide +kernel
theorem dX4_firstWins_47 : decode cX4_firstWins 47 = .ok (.aload_n 0, 1) := by decide +kernel
theorem dX4_firstWins_48 : decode cX4_firstWins 48 = .ok (.getfield 26, 3) := by decide +kernel
theorem dX4_firstWins_51 : decode cX4_firstWins 51 = .ok (.iload_n 2, 1) := by decide +kernel
theorem dX4_firstWins_52 : decode cX4_firstWins 52 = .ok (.iaload, 1) := by decide +kernel
theorem dX4_firstWins_53 : decode cX4_firstWins 53 = .ok (.istore 5, 2) := by decide +kernel
theorem dX4_firstWins_55 : decode cX4_firstWins 55 = .ok (.iload_n 1, 1) := by decide +kernel
theorem dX4_firstWins_56 : decode cX4_firstWins 56 = .ok (.ifCond .ne 7, 3) := by decide +kernel
theorem dX4_firstWins_59 : decode cX4_firstWins 59 = .ok (.iconst 1, 1) := by decide +kernel
theorem dX4_firstWins_60 : decode cX4_firstWins 60 = .ok (.goto 4, 3) := by decide +kernel
theorem dX4_firstWins_63 : decode cX4_firstWins 63 = .ok (.iconst 0, 1) := by decide +kernel
theorem dX4_firstWins_64 : decode cX4_firstWins 64 = .ok (.istore 6, 2) := by decide +kernel
theorem dX4_firstWins_66 : decode cX4_firstWins 66 = .ok (.iconst 0, 1) := by decide +kernel
theorem dX4_firstWins_67 : decode cX4_firstWins 67 = .ok (.istore 7, 2) := by decide +kernel
theorem dX4_firstWins_69 : decode cX4_firstWins 69 = .ok (.iload 7, 2) := by decide +kernel
theorem dX4_firstWins_71 : decode cX4_firstWins 71 = .ok (.aload_n 0, 1) := by decide +kernel
theorem dX4_firstWins_72 : decode cX4_firstWins 72 = .ok (.getfield 47, 3) := by decide +kernel
theorem dX4_firstWins_75 : decode cX4_firstWins 75 = .ok (.if_icmp .ge 84, 3) := by decide +kernel
theorem dX4_firstWins_78 : decode cX4_firstWins 78 = .ok (.iload 5, 2) := by decide +kernel
theorem dX4_firstWins_80 : decode cX4_firstWins 80 = .ok (.iload 7, 2) := by decide +kernel
theorem dX4_firstWins_82 : decode cX4_firstWins 82 = .ok (.invokestatic 71, 3) := by decide +kernel
theorem dX4_firstWins_85 : decode cX4_firstWins 85 = .ok (.ifCond .ne 6, 3) := by decide +kernel
theorem dX4_firstWins_88 : decode cX4_firstWins 88 = .ok (.goto 65, 3) := by decide +kernel
theorem dX4_firstWins_91 : decode cX4_firstWins 91 = .ok (.aload_n 0, 1) := by decide +kernel
theorem dX4_firstWins_92 : decode cX4_firstWins 92 = .ok (.iload_n 1, 1) := by decide +kernel
theorem dX4_firstWins_93 : decode cX4_firstWins 93 = .ok (.ifCond .ne 7, 3) := by decide +kernel
theorem dX4_firstWins_96 : decode cX4_firstWins 96 = .ok (.iconst 1, 1) := by decide +kernel
theorem dX4_firstWins_97 : decode cX4_firstWins 97 = .ok (.goto 4, 3) := by decide +kernel
theorem dX4_firstWins_100 : decode cX4_firstWins 100 = .ok (.iconst 0, 1) := by decide +kernel
theorem dX4_firstWins_101 : decode cX4_firstWins 101 = .ok (.iload 7, 2) := by decide +kernel
theorem dX4_firstWins_103 : decode cX4_firstWins 103 = .ok (.iload_n 3, 1) := by decide +kernel
theorem dX4_firstWins_104 : decode cX4_firstWins 104 = .ok (.iconst 1, 1) := by decide +kernel
theorem dX4_firstWins_105 : decode cX4_firstWins 105 = .ok (.iload 7, 2) := by decide +kernel
theorem dX4_firstWins_107 : decode cX4_firstWins 107 = .ok (.ishl, 1) := by decide +kernel
theorem dX4_firstWins_108 : decode cX4_firstWins 108 = .ok (.ior, 1) := by decide +kernel
theorem dX4_firstWins_109 : decode cX4_firstWins 109 = .ok (.invokevirtual 130, 3) := by decide +kernel
theorem dX4_firstWins_112 : decode cX4_firstWins 112 = .ok (.istore 8, 2) := by decide +kernel
theorem dX4_firstWins_114 : decode cX4_firstWins 114 = .ok (.iload_n 1, 1) := by decide +kernel
theorem dX4_firstWins_115 : decode cX4_firstWins 115 = .ok (.ifCond .eq 21, 3) := by decide +kernel
theorem dX4_firstWins_118 : decode cX4_firstWins 118 = .ok (.iload 6, 2) := by decide +kernel
theorem dX4_firstWins_120 : decode cX4_firstWins 120 = .ok (.ifCond .ne 8, 3) := by decide +kernel
theorem dX4_firstWins_123 : decode cX4_firstWins 123 = .ok (.iload 8, 2) := by decide +kernel
theorem dX4_firstWins_125 : decode cX4_firstWins 125 = .ok (.ifCond .eq 7, 3) := by decide +kernel
theorem dX4_firstWins_128 : decode cX4_firstWins 128 = .ok (.iconst 1, 1) := by decide +kernel
theorem dX4_firstWins_129 : decode cX4_firstWins 129 = .ok (.goto 22, 3) := by decide +kernel
theorem dX4_firstWins_132 : decode cX4_firstWins 132 = .ok (.iconst 0, 1) := by decide +kernel
theorem dX4_firstWins_133 : decode cX4_firstWins 133 = .ok (.goto 18, 3) := by decide +kernel
theorem dX4_firstWins_136 : decode cX4_firstWins 136 = .ok (.iload 6, 2) := by decide +kernel
theorem dX4_firstWins_138 : decode cX4_firstWins 138 = .ok (.ifCond .eq 12, 3) := by decide +kernel
theorem dX4_firstWins_141 : decode cX4_firstWins 141 = .ok (.iload 8, 2) := by decide +kernel
theorem dX4_firstWins_143 : decode cX4_firstWins 143 = .ok (.ifCond .eq 7, 3) := by decide +kernel
theorem dX4_firstWins_146 : decode cX4_firstWins 146 = .ok (.iconst 1, 1) := by decide +kernel
theorem dX4_firstWins_147 : decode cX4_firstWins 147 = .ok (.goto 4, 3) := by decide +kernel
theorem dX4_firstWins_150 : decode cX4_firstWins 150 = .ok (.iconst 0, 1) := by decide +kernel
theorem dX4_firstWins_151 : decode cX4_firstWins 151 = .ok (.istore 6, 2) := by decide +kernel
theorem dX4_firstWins_153 : decode cX4_firstWins 153 = .ok (.iinc 7 1, 3) := by decide +kernel
theorem dX4_firstWins_156 : decode cX4_firstWins 156 = .ok (.goto (-87), 3) := by decide +kernel
theorem dX4_firstWins_159 : decode cX4_firstWins 159 = .ok (.aload_n 0, 1) := by decide +kernel
theorem dX4_firstWins_160 : decode cX4_firstWins 160 = .ok (.getfield 40, 3) := by decide +kernel
theorem dX4_firstWins_163 : decode cX4_firstWins 163 = .ok (.iload 4, 2) := by decide +kernel
theorem dX4_firstWins_165 : decode cX4_firstWins 165 = .ok (.iload 6, 2) := by decide +kernel
theorem dX4_firstWins_167 : decode cX4_firstWins 167 = .ok (.ifCond .eq 7, 3) := by decide +kernel
theorem dX4_firstWins_170 : decode cX4_firstWins 170 = .ok (.iconst 1, 1) := by decide +kernel
theorem dX4_firstWins_171 : decode cX4_firstWins 171 = .ok (.goto 4, 3) := by decide +kernel
theorem dX4_firstWins_174 : decode cX4_firstWins 174 = .ok (.iconst 2, 1) := by decide +kernel
theorem dX4_firstWins_175 : decode cX4_firstWins 175 = .ok (.i2b, 1) := by decide +kernel
theorem dX4_firstWins_176 : decode cX4_firstWins 176 = .ok (.bastore, 1) := by decide +kernel
theorem dX4_firstWins_177 : decode cX4_firstWins 177 = .ok (.aload_n 0, 1) := by decide +kernel
theorem dX4_firstWins_178 : decode cX4_firstWins 178 = .ok (.getfield 40, 3) := by decide +kernel
theorem dX4_firstWins_181 : decode cX4_firstWins 181 = .ok (.iload 4, 2) := by decide +kernel
theorem dX4_firstWins_183 : decode cX4_firstWins 183 = .ok (.baload, 1) := by decide +kernel
theorem dX4_firstWins_184 : decode cX4_firstWins 184 = .ok (.iconst 1, 1) := by decide +kernel
theorem dX4_firstWins_185 : decode cX4_firstWins 185 = .ok (.if_icmp .ne 7, 3) := by decide +kernel
theorem dX4_firstWins_188 : decode cX4_firstWins 188 = .ok (.iconst 1, 1) := by decide +kernel
theorem dX4_firstWins_189 : decode cX4_firstWins 189 = .ok (.goto 4, 3) := by decide +kernel
theorem dX4_firstWins_192 : decode cX4_firstWins 192 = .ok (.iconst 0, 1) := by decide +kernel
theorem dX4_firstWins_193 : decode cX4_firstWins 193 = .ok (.ireturn, 1) := by decide +kernel
set_option maxRecDepth 20000 in
theorem ggX4_wins_X4_isArgument : GoodIn wsX4_wins wsX4_isArgument := goodIn_r _ [8, 9, 38, 39, 40, 41, 42, 43, 44, 45, 46, 47, 48, 49, 50, 51] (by decide +kernel) (by decide +kernel)
set_option maxRecDepth 20000 in
theorem gX4_wins_X4_isArgument : GoodIn wsX4_wins (wsV RX4 68 RX4 yX4_isArgument wsX4_isArgument) := goodIn_app (goodIn_of _ (by decide +kernel)) ggX4_wins_X4_isArgument
set_option maxRecDepth 20000 in
theorem ggX4_wins_X4_has : GoodIn wsX4_wins wsX4_has := goodIn_r _ [12] (by decide +kernel) (by decide +kernel)
set_option maxRecDepth 20000 in
theorem gX4_wins_X4_has : GoodIn wsX4_wins (va_wsS RX4 71 yX4_has wsX4_has) := goodIn_app (goodIn_of _ (by decide +kernel)) ggX4_wins_X4_has
set_option maxRecDepth 20000 in
theorem ggX4_wins_X4_look : GoodIn wsX4_wins wsX4_look := goodIn_r _ [16, 9, 17, 18, 19, 20, 21, 7, 22, 23, 24, 25, 26, 2, 27, 28, 29, 10, 11, 12, 30, 31, 32, 33, 38, 39, 40, 41, 42, 43, 44, 45, 46, 47, 48, 49, 50, 51] (by decide +kernel) (by decide +kernel)
set_option maxRecDepth 20000 in
theorem gX4_wins_X4_look : GoodIn wsX4_wins (wsV RX4 101 RX4 yX4_look wsX4_look) := goodIn_app (goodIn_of _ (by decide +kernel)) ggX4_wins_X4_look
set_option maxRecDepth 20000 in
theorem ggX4_wins_X4_firstWins : GoodIn wsX4_wins wsX4_firstWins := goodIn_r _ [37, 3, 17, 9, 10, 11, 7, 12, 34, 35, 36, 38, 39, 40, 41, 42, 43, 44, 45, 46, 47, 48, 49, 50, 51] (by decide +kernel) (by decide +kernel)
set_option maxRecDepth 20000 in
theorem gX4_wins_X4_firstWins : GoodIn wsX4_wins (wsV RX4 130 RX4 yX4_firstWins wsX4_firstWins) := goodIn_app (goodIn_of _ (by decide +kernel)) ggX4_wins_X4_firstWins
theorem dX4_wins_0 : decode cX4_wins 0 = .ok (.aload_n 0, 1) := by decide +kernel
theorem dX4_wins_1 : decode cX4_wins 1 = .ok (.aload_n 0, 1) := by decide +kernel
theorem dX4_wins_2 : decode cX4_wins 2 = .ok (.iload_n 1, 1) := by decide +kernel
theorem dX4_wins_3 : decode cX4_wins 3 = .ok (.invokevirtual 68, 3) := by decide +kernel
theorem dX4_wins_6 : decode cX4_wins 6 = .ok (.ifCond .eq 7, 3) := by decide +kernel
theorem dX4_wins_9 : decode cX4_wins 9 = .ok (.iconst 0, 1) := by decide +kernel
theorem dX4_wins_10 : decode cX4_wins 10 = .ok (.goto 4, 3) := by decide +kernel
theorem dX4_wins_13 : decode cX4_wins 13 = .ok (.iconst 1, 1) := by decide +kernel
theorem dX4_wins_14 : decode cX4_wins 14 = .ok (.putfield 44, 3) := by decide +kernel
theorem dX4_wins_17 : decode cX4_wins 17 = .ok (.aload_n 0, 1) := by decide +kernel
theorem dX4_wins_18 : decode cX4_wins 18 = .ok (.getfield 44, 3) := by decide +kernel
theorem dX4_wins_21 : decode cX4_wins 21 = .ok (.ifCond .ne 14, 3) := by decide +kernel
theorem dX4_wins_24 : decode cX4_wins 24 = .ok (.aload_n 0, 1) := by decide +kernel
theorem dX4_wins_25 : decode cX4_wins 25 = .ok (.getfield 62, 3) := by decide +kernel
theorem dX4_wins_28 : decode cX4_wins 28 = .ok (.iload_n 1, 1) := by decide +kernel
theorem dX4_wins_29 : decode cX4_wins 29 = .ok (.invokestatic 71, 3) := by decide +kernel
theorem dX4_wins_32 : decode cX4_wins 32 = .ok (.ifCond .ne 5, 3) := by decide +kernel
theorem dX4_wins_35 : decode cX4_wins 35 = .ok (.iconst 0, 1) := by decide +kernel
theorem dX4_wins_36 : decode cX4_wins 36 = .ok (.ireturn, 1) := by decide +kernel
theorem dX4_wins_37 : decode cX4_wins 37 = .ok (.aload_n 0, 1) := by decide +kernel
theorem dX4_wins_38 : decode cX4_wins 38 = .ok (.invokevirtual 101, 3) := by decide +kernel
theorem dX4_wins_41 : decode cX4_wins 41 = .ok (.iconst 0, 1) := by decide +kernel
theorem dX4_wins_42 : decode cX4_wins 42 = .ok (.istore_n 2, 1) := by decide +kernel
theorem dX4_wins_43 : decode cX4_wins 43 = .ok (.iload_n 2, 1) := by decide +kernel
theorem dX4_wins_44 : decode cX4_wins 44 = .ok (.aload_n 0, 1) := by decide +kernel
theorem dX4_wins_45 : decode cX4_wins 45 = .ok (.getfield 40, 3) := by decide +kernel
theorem dX4_wins_48 : decode cX4_wins 48 = .ok (.arraylength, 1) := by decide +kernel
theorem dX4_wins_49 : decode cX4_wins 49 = .ok (.if_icmp .ge 16, 3) := by decide +kernel
theorem dX4_wins_52 : decode cX4_wins 52 = .ok (.aload_n 0, 1) := by decide +kernel
theorem dX4_wins_53 : decode cX4_wins 53 = .ok (.getfield 40, 3) := by decide +kernel
theorem dX4_wins_56 : decode cX4_wins 56 = .ok (.iload_n 2, 1) := by decide +kernel
theorem dX4_wins_57 : decode cX4_wins 57 = .ok (.iconst 0, 1) := by decide +kernel
theorem dX4_wins_58 : decode cX4_wins 58 = .ok (.bastore, 1) := by decide +kernel
theorem dX4_wins_59 : decode cX4_wins 59 = .ok (.iinc 2 1, 3) := by decide +kernel
theorem dX4_wins_62 : decode cX4_wins 62 = .ok (.goto (-19), 3) := by decide +kernel
theorem dX4_wins_65 : decode cX4_wins 65 = .ok (.aload_n 0, 1) := by decide +kernel
theorem dX4_wins_66 : decode cX4_wins 66 = .ok (.iconst 0, 1) := by decide +kernel
theorem dX4_wins_67 : decode cX4_wins 67 = .ok (.iload_n 1, 1) := by decide +kernel
theorem dX4_wins_68 : decode cX4_wins 68 = .ok (.iconst 1, 1) := by decide +kernel
theorem dX4_wins_69 : decode cX4_wins 69 = .ok (.iload_n 1, 1) := by decide +kernel
theorem dX4_wins_70 : decode cX4_wins 70 = .ok (.ishl, 1) := by decide +kernel
theorem dX4_wins_71 : decode cX4_wins 71 = .ok (.invokevirtual 130, 3) := by decide +kernel
theorem dX4_wins_74 : decode cX4_wins 74 = .ok (.ireturn, 1) := by decide +kernel
set_option maxRecDepth 20000 in
theorem ggX4_silence_X4_isArgument : GoodIn wsX4_silence wsX4_isArgument := goodIn_r _ [8, 3, 56, 57, 58, 59, 60, 61, 62, 63, 64, 65, 66, 67, 68, 69] (by decide +kernel) (by decide +kernel)
set_option maxRecDepth 20000 in
theorem gX4_silence_X4_isArgument : GoodIn wsX4_silence (wsV RX4 68 RX4 yX4_isArgument wsX4_isArgument) := goodIn_app (goodIn_of _ (by decide +kernel)) ggX4_silence_X4_isArgument
set_option maxRecDepth 20000 in
theorem ggX4_silence_X4_fail : GoodIn wsX4_silence wsX4_fail := goodIn_r _ [12, 1, 56, 57, 58, 59, 60, 61, 62, 63, 64, 65, 66, 67, 68, 69] (by decide +kernel) (by decide +kernel)
set_option maxRecDepth 20000 in
theorem gX4_silence_X4_fail : GoodIn wsX4_silence (wsV RX4 58 RX4 yX4_fail wsX4_fail) := goodIn_app (goodIn_of _ (by decide +kernel)) ggX4_silence_X4_fail
set_option maxRecDepth 20000 in
theorem ggX4_silence_X4_has : GoodIn wsX4_silence wsX4_has := goodIn_r _ [15] (by decide +kernel) (by decide +kernel)
set_option maxRecDepth 20000 in
theorem gX4_silence_X4_has : GoodIn wsX4_silence (va_wsS RX4 71 yX4_has wsX4_has) := goodIn_app (goodIn_of _ (by decide +kernel)) ggX4_silence_X4_has
set_option maxRecDepth 20000 in
theorem ggX4_silence_J6_bitCount_0f7a4 : GoodIn wsX4_silence wsJ6_bitCount_0f7a4 := goodIn_r _ [19, 20, 21, 22] (by decide +kernel) (by decide +kernel)
set_option maxRecDepth 20000 in
theorem gX4_silence_J6_bitCount_0f7a4 : GoodIn wsX4_silence (va_wsS RX4 84 yJ6_bitCount_0f7a4 wsJ6_bitCount_0f7a4) := goodIn_app (goodIn_of _ (by decide +kernel)) ggX4_silence_J6_bitCount_0f7a4
set_option maxRecDepth 20000 in
theorem ggX4_silence_X4_look : GoodIn wsX4_silence wsX4_look := goodIn_r _ [26, 3, 27, 28, 29, 30, 31, 7, 32, 33, 34, 35, 36, 2, 37, 38, 39, 13, 14, 15, 40, 41, 42, 43, 56, 57, 58, 59, 60, 61, 62, 63, 64, 65, 66, 67, 68, 69] (by decide +kernel) (by decide +kernel)
set_option maxRecDepth 20000 in
theorem gX4_silence_X4_look : GoodIn wsX4_silence (wsV RX4 101 RX4 yX4_look wsX4_look) := goodIn_app (goodIn_of _ (by decide +kernel)) ggX4_silence_X4_look
set_option maxRecDepth 20000 in
theorem ggX4_silence_X4_groundedBehind : GoodIn wsX4_silence wsX4_groundedBehind := goodIn_r _ [47, 48, 49, 50, 7, 51, 3, 2, 27, 52, 53, 54, 55, 28, 13, 14, 15, 56, 57, 58, 59, 60, 61, 62, 63, 64, 65, 66, 67, 68, 69] (by decide +kernel) (by decide +kernel)
set_option maxRecDepth 20000 in
theorem gX4_silence_X4_groundedBehind : GoodIn wsX4_silence (wsV RX4 114 RX4 yX4_groundedBehind wsX4_groundedBehind) := goodIn_app (goodIn_of _ (by decide +kernel)) ggX4_silence_X4_groundedBehind
theorem dX4_silence_0 : decode cX4_silence 0 = .ok (.aload_n 0, 1) := by decide +kernel
theorem dX4_silence_1 : decode cX4_silence 1 = .ok (.iconst 0, 1) := by decide +kernel
theorem dX4_silence_2 : decode cX4_silence 2 = .ok (.putfield 44, 3) := by decide +kernel
theorem dX4_silence_5 : decode cX4_silence 5 = .ok (.aload_n 0, 1) := by decide +kernel
theorem dX4_silence_6 : decode cX4_silence 6 = .ok (.iload_n 1, 1) := by decide +kernel
theorem dX4_silence_7 : decode cX4_silence 7 = .ok (.invokevirtual 68, 3) := by decide +kernel
theorem dX4_silence_10 : decode cX4_silence 10 = .ok (.ifCond .ne 9, 3) := by decide +kernel
theorem dX4_silence_13 : decode cX4_silence 13 = .ok (.aload_n 0, 1) := by decide +kernel
theorem dX4_silence_14 : decode cX4_silence 14 = .ok (.iconst 1, 1) := by decide +kernel
theorem dX4_silence_15 : decode cX4_silence 15 = .ok (.invokevirtual 58, 3) := by decide +kernel
theorem dX4_silence_18 : decode cX4_silence 18 = .ok (.ireturn, 1) := by decide +kernel
theorem dX4_silence_19 : decode cX4_silence 19 = .ok (.aload_n 0, 1) := by decide +kernel
theorem dX4_silence_20 : decode cX4_silence 20 = .ok (.getfield 62, 3) := by decide +kernel
theorem dX4_silence_23 : decode cX4_silence 23 = .ok (.istore_n 2, 1) := by decide +kernel
theorem dX4_silence_24 : decode cX4_silence 24 = .ok (.iconst (-1), 1) := by decide +kernel
theorem dX4_silence_25 : decode cX4_silence 25 = .ok (.istore_n 3, 1) := by decide +kernel
theorem dX4_silence_26 : decode cX4_silence 26 = .ok (.iconst 0, 1) := by decide +kernel
theorem dX4_silence_27 : decode cX4_silence 27 = .ok (.istore 4, 2) := by decide +kernel
theorem dX4_silence_29 : decode cX4_silence 29 = .ok (.iload 4, 2) := by decide +kernel
theorem dX4_silence_31 : decode cX4_silence 31 = .ok (.iconst 1, 1) := by decide +kernel
theorem dX4_silence_32 : decode cX4_silence 32 = .ok (.aload_n 0, 1) := by decide +kernel
theorem dX4_silence_33 : decode cX4_silence 33 = .ok (.getfield 47, 3) := by decide +kernel
theorem dX4_silence_36 : decode cX4_silence 36 = .ok (.ishl, 1) := by decide +kernel
theorem dX4_silence_37 : decode cX4_silence 37 = .ok (.if_icmp .ge 85, 3) := by decide +kernel
theorem dX4_silence_40 : decode cX4_silence 40 = .ok (.iload_n 2, 1) := by decide +kernel
theorem dX4_silence_41 : decode cX4_silence 41 = .ok (.iload_n 1, 1) := by decide +kernel
theorem dX4_silence_42 : decode cX4_silence 42 = .ok (.invokestatic 71, 3) := by decide +kernel
theorem dX4_silence_45 : decode cX4_silence 45 = .ok (.ifCond .eq 77, 3) := by decide +kernel
theorem dX4_silence_48 : decode cX4_silence 48 = .ok (.iload 4, 2) := by decide +kernel
theorem dX4_silence_50 : decode cX4_silence 50 = .ok (.iload_n 2, 1) := by decide +kernel
theorem dX4_silence_51 : decode cX4_silence 51 = .ok (.iconst (-1), 1) := by decide +kernel
theorem dX4_silence_52 : decode cX4_silence 52 = .ok (.ixor, 1) := by decide +kernel
theorem dX4_silence_53 : decode cX4_silence 53 = .ok (.iand, 1) := by decide +kernel
theorem dX4_silence_54 : decode cX4_silence 54 = .ok (.ifCond .ne 62, 3) := by decide +kernel
theorem dX4_silence_57 : decode cX4_silence 57 = .ok (.iload 4, 2) := by decide +kernel
theorem dX4_silence_59 : decode cX4_silence 59 = .ok (.iload_n 1, 1) := by decide +kernel
theorem dX4_silence_60 : decode cX4_silence 60 = .ok (.invokestatic 71, 3) := by decide +kernel
theorem dX4_silence_63 : decode cX4_silence 63 = .ok (.ifCond .ne 53, 3) := by decide +kernel
theorem dX4_silence_66 : decode cX4_silence 66 = .ok (.iload_n 3, 1) := by decide +kernel
theorem dX4_silence_67 : decode cX4_silence 67 = .ok (.iconst (-1), 1) := by decide +kernel
theorem dX4_silence_68 : decode cX4_silence 68 = .ok (.if_icmp .eq 18, 3) := by decide +kernel
theorem dX4_silence_71 : decode cX4_silence 71 = .ok (.iload 4, 2) := by decide +kernel
theorem dX4_silence_73 : decode cX4_silence 73 = .ok (.invokestatic 84, 3) := by decide +kernel
theorem dX4_silence_76 : decode cX4_silence 76 = .ok (.iload_n 3, 1) := by decide +kernel
theorem dX4_silence_77 : decode cX4_silence 77 = .ok (.invokestatic 84, 3) := by decide +kernel
theorem dX4_silence_80 : decode cX4_silence 80 = .ok (.if_icmp .lt 6, 3) := by decide +kernel
theorem dX4_silence_83 : decode cX4_silence 83 = .ok (.goto 33, 3) := by decide +kernel
theorem dX4_silence_86 : decode cX4_silence 86 = .ok (.aload_n 0, 1) := by decide +kernel
theorem dX4_silence_87 : decode cX4_silence 87 = .ok (.iload_n 2, 1) := by decide +kernel
theorem dX4_silence_88 : decode cX4_silence 88 = .ok (.iload 4, 2) := by decide +kernel
theorem dX4_silence_90 : decode cX4_silence 90 = .ok (.iconst (-1), 1) := by decide +kernel
theorem dX4_silence_91 : decode cX4_silence 91 = .ok (.ixor, 1) := by decide +kernel
theorem dX4_silence_92 : decode cX4_silence 92 = .ok (.iand, 1) := by decide +kernel
theorem dX4_silence_93 : decode cX4_silence 93 = .ok (.putfield 62, 3) := by decide +kernel
theorem dX4_silence_96 : decode cX4_silence 96 = .ok (.aload_n 0, 1) := by decide +kernel
theorem dX4_silence_97 : decode cX4_silence 97 = .ok (.invokevirtual 101, 3) := by decide +kernel
theorem dX4_silence_100 : decode cX4_silence 100 = .ok (.aload_n 0, 1) := by decide +kernel
theorem dX4_silence_101 : decode cX4_silence 101 = .ok (.bipush 12, 2) := by decide +kernel
theorem dX4_silence_103 : decode cX4_silence 103 = .ok (.invokevirtual 114, 3) := by decide +kernel
theorem dX4_silence_106 : decode cX4_silence 106 = .ok (.iload_n 1, 1) := by decide +kernel
theorem dX4_silence_107 : decode cX4_silence 107 = .ok (.invokestatic 71, 3) := by decide +kernel
theorem dX4_silence_110 : decode cX4_silence 110 = .ok (.ifCond .eq 6, 3) := by decide +kernel
theorem dX4_silence_113 : decode cX4_silence 113 = .ok (.iload 4, 2) := by decide +kernel
theorem dX4_silence_115 : decode cX4_silence 115 = .ok (.istore_n 3, 1) := by decide +kernel
theorem dX4_silence_116 : decode cX4_silence 116 = .ok (.iinc 4 1, 3) := by decide +kernel
theorem dX4_silence_119 : decode cX4_silence 119 = .ok (.goto (-90), 3) := by decide +kernel
theorem dX4_silence_122 : decode cX4_silence 122 = .ok (.aload_n 0, 1) := by decide +kernel
theorem dX4_silence_123 : decode cX4_silence 123 = .ok (.iload_n 2, 1) := by decide +kernel
theorem dX4_silence_124 : decode cX4_silence 124 = .ok (.putfield 62, 3) := by decide +kernel
theorem dX4_silence_127 : decode cX4_silence 127 = .ok (.iload_n 3, 1) := by decide +kernel
theorem dX4_silence_128 : decode cX4_silence 128 = .ok (.ireturn, 1) := by decide +kernel
set_option maxRecDepth 20000 in
theorem ggX4_tolerable_X4_isArgument : GoodIn wsX4_tolerable wsX4_isArgument := goodIn_r _ [7, 8, 49, 50, 51, 52, 53, 54, 55, 56, 57, 58, 59, 60, 61, 62] (by decide +kernel) (by decide +kernel)
set_option maxRecDepth 20000 in
theorem gX4_tolerable_X4_isArgument : GoodIn wsX4_tolerable (wsV RX4 68 RX4 yX4_isArgument wsX4_isArgument) := goodIn_app (goodIn_of _ (by decide +kernel)) ggX4_tolerable_X4_isArgument
set_option maxRecDepth 20000 in
theorem ggX4_tolerable_X4_fail : GoodIn wsX4_tolerable wsX4_fail := goodIn_r _ [12, 1, 49, 50, 51, 52, 53, 54, 55, 56, 57, 58, 59, 60, 61, 62] (by decide +kernel) (by decide +kernel)
set_option maxRecDepth 20000 in
theorem gX4_tolerable_X4_fail : GoodIn wsX4_tolerable (wsV RX4 58 RX4 yX4_fail wsX4_fail) := goodIn_app (goodIn_of _ (by decide +kernel)) ggX4_tolerable_X4_fail
set_option maxRecDepth 20000 in
theorem ggX4_tolerable_X4_look : GoodIn wsX4_tolerable wsX4_look := goodIn_r _ [16, 8, 17, 18, 19, 20, 21, 6, 22, 23, 24, 25, 26, 27, 28, 29, 2, 30, 31, 32, 33, 34, 35, 36, 49, 50, 51, 52, 53, 54, 55, 56, 57, 58, 59, 60, 61, 62] (by decide +kernel) (by decide +kernel)
set_option maxRecDepth 20000 in
theorem gX4_tolerable_X4_look : GoodIn wsX4_tolerable (wsV RX4 101 RX4 yX4_look wsX4_look) := goodIn_app (goodIn_of _ (by decide +kernel)) ggX4_tolerable_X4_look
set_option maxRecDepth 20000 in
theorem ggX4_tolerable_X4_groundedBehind : GoodIn wsX4_tolerable wsX4_groundedBehind := goodIn_r _ [40, 41, 42, 43, 6, 44, 8, 27, 17, 45, 46, 47, 48, 18, 30, 31, 32, 49, 50, 51, 52, 53, 54, 55, 56, 57, 58, 59, 60, 61, 62] (by decide +kernel) (by decide +kernel)
set_option maxRecDepth 20000 in
theorem gX4_tolerable_X4_groundedBehind : GoodIn wsX4_tolerable (wsV RX4 114 RX4 yX4_groundedBehind wsX4_groundedBehind) := goodIn_app (goodIn_of _ (by decide +kernel)) ggX4_tolerable_X4_groundedBehind
set_option maxRecDepth 20000 in
theorem ggX4_tolerable_X4_has : GoodIn wsX4_tolerable wsX4_has := goodIn_r _ [32] (by decide +kernel) (by decide +kernel)
set_option maxRecDepth 20000 in
theorem gX4_tolerable_X4_has : GoodIn wsX4_tolerable (va_wsS RX4 71 yX4_has wsX4_has) := goodIn_app (goodIn_of _ (by decide +kernel)) ggX4_tolerable_X4_has
theorem dX4_tolerable_0 : decode cX4_tolerable 0 = .ok (.aload_n 0, 1) := by decide +kernel
theorem dX4_tolerable_1 : decode cX4_tolerable 1 = .ok (.iconst 0, 1) := by decide +kernel
theorem dX4_tolerable_2 : decode cX4_tolerable 2 = .ok (.putfield 44, 3) := by decide +kernel
theorem dX4_tolerable_5 : decode cX4_tolerable 5 = .ok (.aload_n 0, 1) := by decide +kernel
theorem dX4_tolerable_6 : decode cX4_tolerable 6 = .ok (.iload_n 1, 1) := by decide +kernel
theorem dX4_tolerable_7 : decode cX4_tolerable 7 = .ok (.invokevirtual 68, 3) := by decide +kernel
theorem dX4_tolerable_10 : decode cX4_tolerable 10 = .ok (.ifCond .ne 9, 3) := by decide +kernel
theorem dX4_tolerable_13 : decode cX4_tolerable 13 = .ok (.aload_n 0, 1) := by decide +kernel
theorem dX4_tolerable_14 : decode cX4_tolerable 14 = .ok (.iconst 1, 1) := by decide +kernel
theorem dX4_tolerable_15 : decode cX4_tolerable 15 = .ok (.invokevirtual 58, 3) := by decide +kernel
theorem dX4_tolerable_18 : decode cX4_tolerable 18 = .ok (.ireturn, 1) := by decide +kernel
theorem dX4_tolerable_19 : decode cX4_tolerable 19 = .ok (.aload_n 0, 1) := by decide +kernel
theorem dX4_tolerable_20 : decode cX4_tolerable 20 = .ok (.getfield 16, 3) := by decide +kernel
theorem dX4_tolerable_23 : decode cX4_tolerable 23 = .ok (.istore_n 2, 1) := by decide +kernel
theorem dX4_tolerable_24 : decode cX4_tolerable 24 = .ok (.iconst (-1), 1) := by decide +kernel
theorem dX4_tolerable_25 : decode cX4_tolerable 25 = .ok (.istore_n 3, 1) := by decide +kernel
theorem dX4_tolerable_26 : decode cX4_tolerable 26 = .ok (.aload_n 0, 1) := by decide +kernel
theorem dX4_tolerable_27 : decode cX4_tolerable 27 = .ok (.iconst 0, 1) := by decide +kernel
theorem dX4_tolerable_28 : decode cX4_tolerable 28 = .ok (.putfield 16, 3) := by decide +kernel
theorem dX4_tolerable_31 : decode cX4_tolerable 31 = .ok (.aload_n 0, 1) := by decide +kernel
theorem dX4_tolerable_32 : decode cX4_tolerable 32 = .ok (.getfield 16, 3) := by decide +kernel
theorem dX4_tolerable_35 : decode cX4_tolerable 35 = .ok (.bipush 9, 2) := by decide +kernel
theorem dX4_tolerable_37 : decode cX4_tolerable 37 = .ok (.if_icmp .gt 38, 3) := by decide +kernel
theorem dX4_tolerable_40 : decode cX4_tolerable 40 = .ok (.aload_n 0, 1) := by decide +kernel
theorem dX4_tolerable_41 : decode cX4_tolerable 41 = .ok (.invokevirtual 101, 3) := by decide +kernel
theorem dX4_tolerable_44 : decode cX4_tolerable 44 = .ok (.aload_n 0, 1) := by decide +kernel
theorem dX4_tolerable_45 : decode cX4_tolerable 45 = .ok (.bipush 12, 2) := by decide +kernel
theorem dX4_tolerable_47 : decode cX4_tolerable 47 = .ok (.invokevirtual 114, 3) := by decide +kernel
theorem dX4_tolerable_50 : decode cX4_tolerable 50 = .ok (.iload_n 1, 1) := by decide +kernel
theorem dX4_tolerable_51 : decode cX4_tolerable 51 = .ok (.invokestatic 71, 3) := by decide +kernel
theorem dX4_tolerable_54 : decode cX4_tolerable 54 = .ok (.ifCond .eq 8, 3) := by decide +kernel
theorem dX4_tolerable_57 : decode cX4_tolerable 57 = .ok (.aload_n 0, 1) := by decide +kernel
theorem dX4_tolerable_58 : decode cX4_tolerable 58 = .ok (.getfield 16, 3) := by decide +kernel
theorem dX4_tolerable_61 : decode cX4_tolerable 61 = .ok (.istore_n 3, 1) := by decide +kernel
theorem dX4_tolerable_62 : decode cX4_tolerable 62 = .ok (.aload_n 0, 1) := by decide +kernel
theorem dX4_tolerable_63 : decode cX4_tolerable 63 = .ok (.dup, 1) := by decide +kernel
theorem dX4_tolerable_64 : decode cX4_tolerable 64 = .ok (.getfield 16, 3) := by decide +kernel
theorem dX4_tolerable_67 : decode cX4_tolerable 67 = .ok (.iconst 1, 1) := by decide +kernel
theorem dX4_tolerable_68 : decode cX4_tolerable 68 = .ok (.iadd, 1) := by decide +kernel
theorem dX4_tolerable_69 : decode cX4_tolerable 69 = .ok (.putfield 16, 3) := by decide +kernel
theorem dX4_tolerable_72 : decode cX4_tolerable 72 = .ok (.goto (-41), 3) := by decide +kernel
theorem dX4_tolerable_75 : decode cX4_tolerable 75 = .ok (.aload_n 0, 1) := by decide +kernel
theorem dX4_tolerable_76 : decode cX4_tolerable 76 = .ok (.iload_n 2, 1) := by decide +kernel
theorem dX4_tolerable_77 : decode cX4_tolerable 77 = .ok (.putfield 16, 3) := by decide +kernel
theorem dX4_tolerable_80 : decode cX4_tolerable 80 = .ok (.iload_n 3, 1) := by decide +kernel
theorem dX4_tolerable_81 : decode cX4_tolerable 81 = .ok (.ireturn, 1) := by decide +kernel
set_option maxRecDepth 20000 in
theorem ggX4_reach_X4_hit : GoodIn wsX4_reach wsX4_hit := goodIn_r _ [6, 7, 1, 8, 9, 5, 10, 11, 12, 13, 14, 15, 16, 17, 18, 19, 20, 21, 22, 23, 24] (by decide +kernel) (by decide +kernel)
set_option maxRecDepth 20000 in
theorem gX4_reach_X4_hit : GoodIn wsX4_reach (wsV RX4 89 RX4 yX4_hit wsX4_hit) := goodIn_app (goodIn_of _ (by decide +kernel)) ggX4_reach_X4_hit
theorem dX4_reach_0 : decode cX4_reach 0 = .ok (.iconst 0, 1) := by decide +kernel
theorem dX4_reach_1 : decode cX4_reach 1 = .ok (.istore_n 3, 1) := by decide +kernel
theorem dX4_reach_2 : decode cX4_reach 2 = .ok (.aload_n 0, 1) := by decide +kernel
theorem dX4_reach_3 : decode cX4_reach 3 = .ok (.getfield 29, 3) := by decide +kernel
theorem dX4_reach_6 : decode cX4_reach 6 = .ok (.iload_n 1, 1) := by decide +kernel
theorem dX4_reach_7 : decode cX4_reach 7 = .ok (.iaload, 1) := by decide +kernel
theorem dX4_reach_8 : decode cX4_reach 8 = .ok (.istore 4, 2) := by decide +kernel
theorem dX4_reach_10 : decode cX4_reach 10 = .ok (.iconst 0, 1) := by decide +kernel
theorem dX4_reach_11 : decode cX4_reach 11 = .ok (.istore 5, 2) := by decide +kernel
theorem dX4_reach_13 : decode cX4_reach 13 = .ok (.iload 5, 2) := by decide +kernel
theorem dX4_reach_15 : decode cX4_reach 15 = .ok (.bipush 24, 2) := by decide +kernel
theorem dX4_reach_17 : decode cX4_reach 17 = .ok (.if_icmp .ge 28, 3) := by decide +kernel
theorem dX4_reach_20 : decode cX4_reach 20 = .ok (.iload_n 3, 1) := by decide +kernel
theorem dX4_reach_21 : decode cX4_reach 21 = .ok (.aload_n 0, 1) := by decide +kernel
theorem dX4_reach_22 : decode cX4_reach 22 = .ok (.iload 4, 2) := by decide +kernel
theorem dX4_reach_24 : decode cX4_reach 24 = .ok (.invokevirtual 89, 3) := by decide +kernel
theorem dX4_reach_27 : decode cX4_reach 27 = .ok (.ior, 1) := by decide +kernel
theorem dX4_reach_28 : decode cX4_reach 28 = .ok (.istore_n 3, 1) := by decide +kernel
theorem dX4_reach_29 : decode cX4_reach 29 = .ok (.iload 4, 2) := by decide +kernel
theorem dX4_reach_31 : decode cX4_reach 31 = .ok (.aload_n 0, 1) := by decide +kernel
theorem dX4_reach_32 : decode cX4_reach 32 = .ok (.iload_n 3, 1) := by decide +kernel
theorem dX4_reach_33 : decode cX4_reach 33 = .ok (.invokevirtual 89, 3) := by decide +kernel
theorem dX4_reach_36 : decode cX4_reach 36 = .ok (.ior, 1) := by decide +kernel
theorem dX4_reach_37 : decode cX4_reach 37 = .ok (.istore 4, 2) := by decide +kernel
theorem dX4_reach_39 : decode cX4_reach 39 = .ok (.iinc 5 1, 3) := by decide +kernel
theorem dX4_reach_42 : decode cX4_reach 42 = .ok (.goto (-29), 3) := by decide +kernel
theorem dX4_reach_45 : decode cX4_reach 45 = .ok (.iload_n 2, 1) := by decide +kernel
theorem dX4_reach_46 : decode cX4_reach 46 = .ok (.ifCond .ne 7, 3) := by decide +kernel
theorem dX4_reach_49 : decode cX4_reach 49 = .ok (.iload_n 3, 1) := by decide +kernel
theorem dX4_reach_50 : decode cX4_reach 50 = .ok (.goto 17, 3) := by decide +kernel
theorem dX4_reach_53 : decode cX4_reach 53 = .ok (.iload_n 2, 1) := by decide +kernel
theorem dX4_reach_54 : decode cX4_reach 54 = .ok (.iconst 1, 1) := by decide +kernel
theorem dX4_reach_55 : decode cX4_reach 55 = .ok (.if_icmp .ne 8, 3) := by decide +kernel
theorem dX4_reach_58 : decode cX4_reach 58 = .ok (.iload 4, 2) := by decide +kernel
theorem dX4_reach_60 : decode cX4_reach 60 = .ok (.goto 7, 3) := by decide +kernel
theorem dX4_reach_63 : decode cX4_reach 63 = .ok (.iload_n 3, 1) := by decide +kernel
theorem dX4_reach_64 : decode cX4_reach 64 = .ok (.iload 4, 2) := by decide +kernel
theorem dX4_reach_66 : decode cX4_reach 66 = .ok (.ior, 1) := by decide +kernel
theorem dX4_reach_67 : decode cX4_reach 67 = .ok (.ireturn, 1) := by decide +kernel
set_option maxRecDepth 20000 in
theorem ggX4_leads_X4_isArgument : GoodIn wsX4_leads wsX4_isArgument := goodIn_r _ [6, 7, 41, 42, 43, 44, 45, 46, 47, 48, 49, 50, 51, 52, 53, 54] (by decide +kernel) (by decide +kernel)
set_option maxRecDepth 20000 in
theorem gX4_leads_X4_isArgument : GoodIn wsX4_leads (wsV RX4 68 RX4 yX4_isArgument wsX4_isArgument) := goodIn_app (goodIn_of _ (by decide +kernel)) ggX4_leads_X4_isArgument
set_option maxRecDepth 20000 in
theorem ggX4_leads_X4_look : GoodIn wsX4_leads wsX4_look := goodIn_r _ [11, 7, 12, 13, 14, 15, 16, 5, 17, 18, 19, 20, 21, 22, 23, 24, 25, 26, 27, 28, 29, 30, 31, 32, 41, 42, 43, 44, 45, 46, 47, 48, 49, 50, 51, 52, 53, 54] (by decide +kernel) (by decide +kernel)
set_option maxRecDepth 20000 in
theorem gX4_leads_X4_look : GoodIn wsX4_leads (wsV RX4 101 RX4 yX4_look wsX4_look) := goodIn_app (goodIn_of _ (by decide +kernel)) ggX4_leads_X4_look
set_option maxRecDepth 20000 in
theorem ggX4_leads_X4_reach : GoodIn wsX4_leads wsX4_reach := goodIn_r _ [36, 13, 37, 38, 39, 5, 40, 7, 26, 27, 28, 41, 42, 43, 44, 45, 46, 47, 48, 49, 50, 51, 52, 53, 54] (by decide +kernel) (by decide +kernel)
set_option maxRecDepth 20000 in
theorem gX4_leads_X4_reach : GoodIn wsX4_leads (wsV RX4 134 RX4 yX4_reach wsX4_reach) := goodIn_app (goodIn_of _ (by decide +kernel)) ggX4_leads_X4_reach
set_option maxRecDepth 20000 in
theorem ggX4_leads_X4_has : GoodIn wsX4_leads wsX4_has := goodIn_r _ [28] (by decide +kernel) (by decide +kernel)
set_option maxRecDepth 20000 in
theorem gX4_leads_X4_has : GoodIn wsX4_leads (va_wsS RX4 71 yX4_has wsX4_has) := goodIn_app (goodIn_of _ (by decide +kernel)) ggX4_leads_X4_has
theorem dX4_leads_0 : decode cX4_leads 0 = .ok (.aload_n 0, 1) := by decide +kernel
theorem dX4_leads_1 : decode cX4_leads 1 = .ok (.aload_n 0, 1) := by decide +kernel
theorem dX4_leads_2 : decode cX4_leads 2 = .ok (.iload_n 1, 1) := by decide +kernel
theorem dX4_leads_3 : decode cX4_leads 3 = .ok (.invokevirtual 68, 3) := by decide +kernel
theorem dX4_leads_6 : decode cX4_leads 6 = .ok (.ifCond .eq 15, 3) := by decide +kernel
theorem dX4_leads_9 : decode cX4_leads 9 = .ok (.aload_n 0, 1) := by decide +kernel
theorem dX4_leads_10 : decode cX4_leads 10 = .ok (.iload_n 2, 1) := by decide +kernel
theorem dX4_leads_11 : decode cX4_leads 11 = .ok (.invokevirtual 68, 3) := by decide +kernel
theorem dX4_leads_14 : decode cX4_leads 14 = .ok (.ifCond .eq 7, 3) := by decide +kernel
theorem dX4_leads_17 : decode cX4_leads 17 = .ok (.iconst 0, 1) := by decide +kernel
theorem dX4_leads_18 : decode cX4_leads 18 = .ok (.goto 4, 3) := by decide +kernel
theorem dX4_leads_21 : decode cX4_leads 21 = .ok (.iconst 1, 1) := by decide +kernel
theorem dX4_leads_22 : decode cX4_leads 22 = .ok (.putfield 44, 3) := by decide +kernel
theorem dX4_leads_25 : decode cX4_leads 25 = .ok (.aload_n 0, 1) := by decide +kernel
theorem dX4_leads_26 : decode cX4_leads 26 = .ok (.getfield 44, 3) := by decide +kernel
theorem dX4_leads_29 : decode cX4_leads 29 = .ok (.ifCond .eq 5, 3) := by decide +kernel
theorem dX4_leads_32 : decode cX4_leads 32 = .ok (.iconst 0, 1) := by decide +kernel
theorem dX4_leads_33 : decode cX4_leads 33 = .ok (.ireturn, 1) := by decide +kernel
theorem dX4_leads_34 : decode cX4_leads 34 = .ok (.aload_n 0, 1) := by decide +kernel
theorem dX4_leads_35 : decode cX4_leads 35 = .ok (.invokevirtual 101, 3) := by decide +kernel
theorem dX4_leads_38 : decode cX4_leads 38 = .ok (.aload_n 0, 1) := by decide +kernel
theorem dX4_leads_39 : decode cX4_leads 39 = .ok (.iload_n 1, 1) := by decide +kernel
theorem dX4_leads_40 : decode cX4_leads 40 = .ok (.iconst 2, 1) := by decide +kernel
theorem dX4_leads_41 : decode cX4_leads 41 = .ok (.invokevirtual 134, 3) := by decide +kernel
theorem dX4_leads_44 : decode cX4_leads 44 = .ok (.iload_n 2, 1) := by decide +kernel
theorem dX4_leads_45 : decode cX4_leads 45 = .ok (.invokestatic 71, 3) := by decide +kernel
theorem dX4_leads_48 : decode cX4_leads 48 = .ok (.ireturn, 1) := by decide +kernel
set_option maxRecDepth 20000 in
theorem ggX4_circles_X4_look : GoodIn wsX4_circles wsX4_look := goodIn_r _ [6, 1, 7, 8, 9, 10, 11, 5, 12, 13, 14, 15, 16, 17, 18, 19, 20, 21, 22, 23, 24, 25, 26, 27, 36, 37, 38, 39, 40, 41, 42, 43, 44, 45, 46, 47, 48, 49] (by decide +kernel) (by decide +kernel)
set_option maxRecDepth 20000 in
theorem gX4_circles_X4_look : GoodIn wsX4_circles (wsV RX4 101 RX4 yX4_look wsX4_look) := goodIn_app (goodIn_of _ (by decide +kernel)) ggX4_circles_X4_look
set_option maxRecDepth 20000 in
theorem ggX4_circles_X4_reach : GoodIn wsX4_circles wsX4_reach := goodIn_r _ [31, 8, 32, 33, 34, 5, 35, 1, 21, 22, 23, 36, 37, 38, 39, 40, 41, 42, 43, 44, 45, 46, 47, 48, 49] (by decide +kernel) (by decide +kernel)
set_option maxRecDepth 20000 in
theorem gX4_circles_X4_reach : GoodIn wsX4_circles (wsV RX4 134 RX4 yX4_reach wsX4_reach) := goodIn_app (goodIn_of _ (by decide +kernel)) ggX4_circles_X4_reach
set_option maxRecDepth 20000 in
theorem ggX4_circles_X4_has : GoodIn wsX4_circles wsX4_has := goodIn_r _ [23] (by decide +kernel) (by decide +kernel)
set_option maxRecDepth 20000 in
theorem gX4_circles_X4_has : GoodIn wsX4_circles (va_wsS RX4 71 yX4_has wsX4_has) := goodIn_app (goodIn_of _ (by decide +kernel)) ggX4_circles_X4_has
theorem dX4_circles_0 : decode cX4_circles 0 = .ok (.aload_n 0, 1) := by decide +kernel
theorem dX4_circles_1 : decode cX4_circles 1 = .ok (.invokevirtual 101, 3) := by decide +kernel
theorem dX4_circles_4 : decode cX4_circles 4 = .ok (.iconst 0, 1) := by decide +kernel
theorem dX4_circles_5 : decode cX4_circles 5 = .ok (.istore_n 2, 1) := by decide +kernel
theorem dX4_circles_6 : decode cX4_circles 6 = .ok (.iconst 0, 1) := by decide +kernel
theorem dX4_circles_7 : decode cX4_circles 7 = .ok (.istore_n 3, 1) := by decide +kernel
theorem dX4_circles_8 : decode cX4_circles 8 = .ok (.iload_n 3, 1) := by decide +kernel
theorem dX4_circles_9 : decode cX4_circles 9 = .ok (.aload_n 0, 1) := by decide +kernel
theorem dX4_circles_10 : decode cX4_circles 10 = .ok (.getfield 47, 3) := by decide +kernel
theorem dX4_circles_13 : decode cX4_circles 13 = .ok (.if_icmp .ge 28, 3) := by decide +kernel
theorem dX4_circles_16 : decode cX4_circles 16 = .ok (.aload_n 0, 1) := by decide +kernel
theorem dX4_circles_17 : decode cX4_circles 17 = .ok (.iload_n 3, 1) := by decide +kernel
theorem dX4_circles_18 : decode cX4_circles 18 = .ok (.iload_n 1, 1) := by decide +kernel
theorem dX4_circles_19 : decode cX4_circles 19 = .ok (.invokevirtual 134, 3) := by decide +kernel
theorem dX4_circles_22 : decode cX4_circles 22 = .ok (.iload_n 3, 1) := by decide +kernel
theorem dX4_circles_23 : decode cX4_circles 23 = .ok (.invokestatic 71, 3) := by decide +kernel
theorem dX4_circles_26 : decode cX4_circles 26 = .ok (.ifCond .eq 9, 3) := by decide +kernel
theorem dX4_circles_29 : decode cX4_circles 29 = .ok (.iload_n 2, 1) := by decide +kernel
theorem dX4_circles_30 : decode cX4_circles 30 = .ok (.iconst 1, 1) := by decide +kernel
theorem dX4_circles_31 : decode cX4_circles 31 = .ok (.iload_n 3, 1) := by decide +kernel
theorem dX4_circles_32 : decode cX4_circles 32 = .ok (.ishl, 1) := by decide +kernel
theorem dX4_circles_33 : decode cX4_circles 33 = .ok (.ior, 1) := by decide +kernel
theorem dX4_circles_34 : decode cX4_circles 34 = .ok (.istore_n 2, 1) := by decide +kernel
theorem dX4_circles_35 : decode cX4_circles 35 = .ok (.iinc 3 1, 3) := by decide +kernel
theorem dX4_circles_38 : decode cX4_circles 38 = .ok (.goto (-30), 3) := by decide +kernel
theorem dX4_circles_41 : decode cX4_circles 41 = .ok (.iload_n 2, 1) := by decide +kernel
theorem dX4_circles_42 : decode cX4_circles 42 = .ok (.ireturn, 1) := by decide +kernel
set_option maxRecDepth 20000 in
theorem ggX4_even_X4_circles : GoodIn wsX4_even wsX4_circles := goodIn_r _ [6, 7, 8, 9, 10, 5, 11, 12, 13, 14, 15, 16, 17, 18, 19, 20, 21, 22, 23, 24, 25, 26, 27, 28, 29, 30, 31, 32, 33, 34, 35, 36, 37, 38, 39, 40, 41, 42, 43, 44, 45, 46, 47, 48, 49, 50, 51, 52, 53, 54] (by decide +kernel) (by decide +kernel)
set_option maxRecDepth 20000 in
theorem gX4_even_X4_circles : GoodIn wsX4_even (wsV RX4 138 RX4 yX4_circles wsX4_circles) := goodIn_app (goodIn_of _ (by decide +kernel)) ggX4_even_X4_circles
theorem dX4_even_0 : decode cX4_even 0 = .ok (.aload_n 0, 1) := by decide +kernel
theorem dX4_even_1 : decode cX4_even 1 = .ok (.iconst 0, 1) := by decide +kernel
theorem dX4_even_2 : decode cX4_even 2 = .ok (.putfield 44, 3) := by decide +kernel
theorem dX4_even_5 : decode cX4_even 5 = .ok (.aload_n 0, 1) := by decide +kernel
theorem dX4_even_6 : decode cX4_even 6 = .ok (.iconst 0, 1) := by decide +kernel
theorem dX4_even_7 : decode cX4_even 7 = .ok (.invokevirtual 138, 3) := by decide +kernel
theorem dX4_even_10 : decode cX4_even 10 = .ok (.ireturn, 1) := by decide +kernel
set_option maxRecDepth 20000 in
theorem ggX4_odd_X4_circles : GoodIn wsX4_odd wsX4_circles := goodIn_r _ [6, 7, 8, 9, 10, 5, 11, 12, 13, 14, 15, 16, 17, 18, 19, 20, 21, 22, 23, 24, 25, 26, 27, 28, 29, 30, 31, 32, 33, 34, 35, 36, 37, 38, 39, 40, 41, 42, 43, 44, 45, 46, 47, 48, 49, 50, 51, 52, 53, 54] (by decide +kernel) (by decide +kernel)
set_option maxRecDepth 20000 in
theorem gX4_odd_X4_circles : GoodIn wsX4_odd (wsV RX4 138 RX4 yX4_circles wsX4_circles) := goodIn_app (goodIn_of _ (by decide +kernel)) ggX4_odd_X4_circles
theorem dX4_odd_0 : decode cX4_odd 0 = .ok (.aload_n 0, 1) := by decide +kernel
theorem dX4_odd_1 : decode cX4_odd 1 = .ok (.iconst 0, 1) := by decide +kernel
theorem dX4_odd_2 : decode cX4_odd 2 = .ok (.putfield 44, 3) := by decide +kernel
theorem dX4_odd_5 : decode cX4_odd 5 = .ok (.aload_n 0, 1) := by decide +kernel
theorem dX4_odd_6 : decode cX4_odd 6 = .ok (.iconst 1, 1) := by decide +kernel
theorem dX4_odd_7 : decode cX4_odd 7 = .ok (.invokevirtual 138, 3) := by decide +kernel
theorem dX4_odd_10 : decode cX4_odd 10 = .ok (.ireturn, 1) := by decide +kernel
set_option maxRecDepth 20000 in
theorem ggX4_digest_X4_know : GoodIn wsX4_digest wsX4_know := goodIn_r _ [14, 15, 8, 3, 16, 6, 17, 18, 19, 20, 13, 21, 22, 23, 24, 25, 26, 27, 28, 29, 30, 31, 32, 5, 7, 33, 34, 35, 36, 37, 38, 39, 40, 41, 42, 43, 44, 45, 46, 47, 48, 49, 50, 51, 52, 53, 54, 55, 56, 57, 58, 59, 9, 60, 61, 62, 63, 64, 65, 66, 67, 68, 69, 70, 71, 72, 73, 74, 75, 76, 77, 78, 79, 80, 81, 82, 83, 84, 85, 86, 87, 88, 89, 90, 91, 92] (by decide +kernel) (by decide +kernel)
set_option maxRecDepth 20000 in
theorem gX4_digest_X4_know : GoodIn wsX4_digest (wsV RX4 121 RX4 yX4_know wsX4_know) := goodIn_app (goodIn_of _ (by decide +kernel)) ggX4_digest_X4_know
set_option maxRecDepth 20000 in
theorem ggX4_digest_X4_has : GoodIn wsX4_digest wsX4_has := goodIn_r _ [35] (by decide +kernel) (by decide +kernel)
set_option maxRecDepth 20000 in
theorem gX4_digest_X4_has : GoodIn wsX4_digest (va_wsS RX4 71 yX4_has wsX4_has) := goodIn_app (goodIn_of _ (by decide +kernel)) ggX4_digest_X4_has
set_option maxRecDepth 20000 in
theorem ggX4_digest_X4_attackersOf : GoodIn wsX4_digest wsX4_attackersOf := goodIn_r _ [27, 3, 28, 29, 30, 13, 31, 6, 32, 5, 7, 33, 34, 35, 79, 80, 81, 82, 83, 84, 85, 86, 87, 88, 89, 90, 91, 92] (by decide +kernel) (by decide +kernel)
set_option maxRecDepth 20000 in
theorem gX4_digest_X4_attackersOf : GoodIn wsX4_digest (wsV RX4 78 RX4 yX4_attackersOf wsX4_attackersOf) := goodIn_app (goodIn_of _ (by decide +kernel)) ggX4_digest_X4_attackersOf
theorem dX4_digest_0 : decode cX4_digest 0 = .ok (.aload_n 0, 1) := by decide +kernel
theorem dX4_digest_1 : decode cX4_digest 1 = .ok (.iconst 0, 1) := by decide +kernel
theorem dX4_digest_2 : decode cX4_digest 2 = .ok (.putfield 44, 3) := by decide +kernel
theorem dX4_digest_5 : decode cX4_digest 5 = .ok (.aload_n 0, 1) := by decide +kernel
theorem dX4_digest_6 : decode cX4_digest 6 = .ok (.invokevirtual 121, 3) := by decide +kernel
theorem dX4_digest_9 : decode cX4_digest 9 = .ok (.ldc2_w 141, 3) := by decide +kernel
theorem dX4_digest_12 : decode cX4_digest 12 = .ok (.aload_n 0, 1) := by decide +kernel
theorem dX4_digest_13 : decode cX4_digest 13 = .ok (.getfield 47, 3) := by decide +kernel
theorem dX4_digest_16 : decode cX4_digest 16 = .ok (.i2l, 1) := by decide +kernel
theorem dX4_digest_17 : decode cX4_digest 17 = .ok (.ladd, 1) := by decide +kernel
theorem dX4_digest_18 : decode cX4_digest 18 = .ok (.lstore_n 1, 1) := by decide +kernel
theorem dX4_digest_19 : decode cX4_digest 19 = .ok (.iconst 0, 1) := by decide +kernel
theorem dX4_digest_20 : decode cX4_digest 20 = .ok (.istore_n 3, 1) := by decide +kernel
theorem dX4_digest_21 : decode cX4_digest 21 = .ok (.iload_n 3, 1) := by decide +kernel
theorem dX4_digest_22 : decode cX4_digest 22 = .ok (.aload_n 0, 1) := by decide +kernel
theorem dX4_digest_23 : decode cX4_digest 23 = .ok (.getfield 47, 3) := by decide +kernel
theorem dX4_digest_26 : decode cX4_digest 26 = .ok (.if_icmp .ge 55, 3) := by decide +kernel
theorem dX4_digest_29 : decode cX4_digest 29 = .ok (.lload_n 1, 1) := by decide +kernel
theorem dX4_digest_30 : decode cX4_digest 30 = .ok (.ldc2_w 143, 3) := by decide +kernel
theorem dX4_digest_33 : decode cX4_digest 33 = .ok (.lmul, 1) := by decide +kernel
theorem dX4_digest_34 : decode cX4_digest 34 = .ok (.aload_n 0, 1) := by decide +kernel
theorem dX4_digest_35 : decode cX4_digest 35 = .ok (.getfield 9, 3) := by decide +kernel
theorem dX4_digest_38 : decode cX4_digest 38 = .ok (.iload_n 3, 1) := by decide +kernel
theorem dX4_digest_39 : decode cX4_digest 39 = .ok (.iaload, 1) := by decide +kernel
theorem dX4_digest_40 : decode cX4_digest 40 = .ok (.i2l, 1) := by decide +kernel
theorem dX4_digest_41 : decode cX4_digest 41 = .ok (.ladd, 1) := by decide +kernel
theorem dX4_digest_42 : decode cX4_digest 42 = .ok (.ldc2_w 143, 3) := by decide +kernel
theorem dX4_digest_45 : decode cX4_digest 45 = .ok (.lmul, 1) := by decide +kernel
theorem dX4_digest_46 : decode cX4_digest 46 = .ok (.aload_n 0, 1) := by decide +kernel
theorem dX4_digest_47 : decode cX4_digest 47 = .ok (.getfield 62, 3) := by decide +kernel
theorem dX4_digest_50 : decode cX4_digest 50 = .ok (.iload_n 3, 1) := by decide +kernel
theorem dX4_digest_51 : decode cX4_digest 51 = .ok (.invokestatic 71, 3) := by decide +kernel
theorem dX4_digest_54 : decode cX4_digest 54 = .ok (.ifCond .eq 7, 3) := by decide +kernel
theorem dX4_digest_57 : decode cX4_digest 57 = .ok (.lconst 1, 1) := by decide +kernel
theorem dX4_digest_58 : decode cX4_digest 58 = .ok (.goto 4, 3) := by decide +kernel
theorem dX4_digest_61 : decode cX4_digest 61 = .ok (.lconst 0, 1) := by decide +kernel
theorem dX4_digest_62 : decode cX4_digest 62 = .ok (.ladd, 1) := by decide +kernel
theorem dX4_digest_63 : decode cX4_digest 63 = .ok (.ldc2_w 143, 3) := by decide +kernel
theorem dX4_digest_66 : decode cX4_digest 66 = .ok (.lmul, 1) := by decide +kernel
theorem dX4_digest_67 : decode cX4_digest 67 = .ok (.aload_n 0, 1) := by decide +kernel
theorem dX4_digest_68 : decode cX4_digest 68 = .ok (.iload_n 3, 1) := by decide +kernel
theorem dX4_digest_69 : decode cX4_digest 69 = .ok (.invokevirtual 78, 3) := by decide +kernel
theorem dX4_digest_72 : decode cX4_digest 72 = .ok (.i2l, 1) := by decide +kernel
theorem dX4_digest_73 : decode cX4_digest 73 = .ok (.ladd, 1) := by decide +kernel
theorem dX4_digest_74 : decode cX4_digest 74 = .ok (.lstore_n 1, 1) := by decide +kernel
theorem dX4_digest_75 : decode cX4_digest 75 = .ok (.iinc 3 1, 3) := by decide +kernel
theorem dX4_digest_78 : decode cX4_digest 78 = .ok (.goto (-57), 3) := by decide +kernel
theorem dX4_digest_81 : decode cX4_digest 81 = .ok (.lload_n 1, 1) := by decide +kernel
theorem dX4_digest_82 : decode cX4_digest 82 = .ok (.ldc2_w 143, 3) := by decide +kernel
theorem dX4_digest_85 : decode cX4_digest 85 = .ok (.lmul, 1) := by decide +kernel
theorem dX4_digest_86 : decode cX4_digest 86 = .ok (.aload_n 0, 1) := by decide +kernel
theorem dX4_digest_87 : decode cX4_digest 87 = .ok (.getfield 16, 3) := by decide +kernel
theorem dX4_digest_90 : decode cX4_digest 90 = .ok (.i2l, 1) := by decide +kernel
theorem dX4_digest_91 : decode cX4_digest 91 = .ok (.ladd, 1) := by decide +kernel
theorem dX4_digest_92 : decode cX4_digest 92 = .ok (.lstore_n 1, 1) := by decide +kernel
theorem dX4_digest_93 : decode cX4_digest 93 = .ok (.iconst 0, 1) := by decide +kernel
theorem dX4_digest_94 : decode cX4_digest 94 = .ok (.istore_n 3, 1) := by decide +kernel
theorem dX4_digest_95 : decode cX4_digest 95 = .ok (.iload_n 3, 1) := by decide +kernel
theorem dX4_digest_96 : decode cX4_digest 96 = .ok (.bipush 7, 2) := by decide +kernel
theorem dX4_digest_98 : decode cX4_digest 98 = .ok (.if_icmp .ge 64, 3) := by decide +kernel
theorem dX4_digest_101 : decode cX4_digest 101 = .ok (.lload_n 1, 1) := by decide +kernel
theorem dX4_digest_102 : decode cX4_digest 102 = .ok (.ldc2_w 143, 3) := by decide +kernel
theorem dX4_digest_105 : decode cX4_digest 105 = .ok (.lmul, 1) := by decide +kernel
theorem dX4_digest_106 : decode cX4_digest 106 = .ok (.aload_n 0, 1) := by decide +kernel
theorem dX4_digest_107 : decode cX4_digest 107 = .ok (.getfield 20, 3) := by decide +kernel
theorem dX4_digest_110 : decode cX4_digest 110 = .ok (.iload_n 3, 1) := by decide +kernel
theorem dX4_digest_111 : decode cX4_digest 111 = .ok (.iaload, 1) := by decide +kernel
theorem dX4_digest_112 : decode cX4_digest 112 = .ok (.i2l, 1) := by decide +kernel
theorem dX4_digest_113 : decode cX4_digest 113 = .ok (.ladd, 1) := by decide +kernel
theorem dX4_digest_114 : decode cX4_digest 114 = .ok (.lstore_n 1, 1) := by decide +kernel
theorem dX4_digest_115 : decode cX4_digest 115 = .ok (.iconst 0, 1) := by decide +kernel
theorem dX4_digest_116 : decode cX4_digest 116 = .ok (.istore 4, 2) := by decide +kernel
theorem dX4_digest_118 : decode cX4_digest 118 = .ok (.iload 4, 2) := by decide +kernel
theorem dX4_digest_120 : decode cX4_digest 120 = .ok (.aload_n 0, 1) := by decide +kernel
theorem dX4_digest_121 : decode cX4_digest 121 = .ok (.getfield 20, 3) := by decide +kernel
theorem dX4_digest_124 : decode cX4_digest 124 = .ok (.iload_n 3, 1) := by decide +kernel
theorem dX4_digest_125 : decode cX4_digest 125 = .ok (.iaload, 1) := by decide +kernel
theorem dX4_digest_126 : decode cX4_digest 126 = .ok (.if_icmp .ge 30, 3) := by decide +kernel
theorem dX4_digest_129 : decode cX4_digest 129 = .ok (.lload_n 1, 1) := by decide +kernel
theorem dX4_digest_130 : decode cX4_digest 130 = .ok (.ldc2_w 143, 3) := by decide +kernel
theorem dX4_digest_133 : decode cX4_digest 133 = .ok (.lmul, 1) := by decide +kernel
theorem dX4_digest_134 : decode cX4_digest 134 = .ok (.aload_n 0, 1) := by decide +kernel
theorem dX4_digest_135 : decode cX4_digest 135 = .ok (.getfield 23, 3) := by decide +kernel
theorem dX4_digest_138 : decode cX4_digest 138 = .ok (.sipush 4096, 3) := by decide +kernel
theorem dX4_digest_141 : decode cX4_digest 141 = .ok (.iload_n 3, 1) := by decide +kernel
theorem dX4_digest_142 : decode cX4_digest 142 = .ok (.imul, 1) := by decide +kernel
theorem dX4_digest_143 : decode cX4_digest 143 = .ok (.iload 4, 2) := by decide +kernel
theorem dX4_digest_145 : decode cX4_digest 145 = .ok (.iadd, 1) := by decide +kernel
theorem dX4_digest_146 : decode cX4_digest 146 = .ok (.iaload, 1) := by decide +kernel
theorem dX4_digest_147 : decode cX4_digest 147 = .ok (.i2l, 1) := by decide +kernel
theorem dX4_digest_148 : decode cX4_digest 148 = .ok (.ladd, 1) := by decide +kernel
theorem dX4_digest_149 : decode cX4_digest 149 = .ok (.lstore_n 1, 1) := by decide +kernel
theorem dX4_digest_150 : decode cX4_digest 150 = .ok (.iinc 4 1, 3) := by decide +kernel
theorem dX4_digest_153 : decode cX4_digest 153 = .ok (.goto (-35), 3) := by decide +kernel
theorem dX4_digest_156 : decode cX4_digest 156 = .ok (.iinc 3 1, 3) := by decide +kernel
theorem dX4_digest_159 : decode cX4_digest 159 = .ok (.goto (-64), 3) := by decide +kernel
theorem dX4_digest_162 : decode cX4_digest 162 = .ok (.lload_n 1, 1) := by decide +kernel
theorem dX4_digest_163 : decode cX4_digest 163 = .ok (.lreturn, 1) := by decide +kernel
