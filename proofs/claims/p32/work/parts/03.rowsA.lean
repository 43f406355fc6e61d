theorem dX0_init_0 : decode cX0_init 0 = .ok (.aload_n 0, 1) := by decide +kernel
theorem dX0_init_1 : decode cX0_init 1 = .ok (.invokespecial 3, 3) := by decide +kernel
theorem dX0_init_4 : decode cX0_init 4 = .ok (.aload_n 0, 1) := by decide +kernel
theorem dX0_init_5 : decode cX0_init 5 = .ok (.bipush 12, 2) := by decide +kernel
theorem dX0_init_7 : decode cX0_init 7 = .ok (.newarray .int, 2) := by decide +kernel
theorem dX0_init_9 : decode cX0_init 9 = .ok (.putfield 9, 3) := by decide +kernel
theorem dX0_init_12 : decode cX0_init 12 = .ok (.aload_n 0, 1) := by decide +kernel
theorem dX0_init_13 : decode cX0_init 13 = .ok (.bipush 12, 2) := by decide +kernel
theorem dX0_init_15 : decode cX0_init 15 = .ok (.newarray .int, 2) := by decide +kernel
theorem dX0_init_17 : decode cX0_init 17 = .ok (.putfield 15, 3) := by decide +kernel
theorem dX0_init_20 : decode cX0_init 20 = .ok (.aload_n 0, 1) := by decide +kernel
theorem dX0_init_21 : decode cX0_init 21 = .ok (.iconst 0, 1) := by decide +kernel
theorem dX0_init_22 : decode cX0_init 22 = .ok (.putfield 18, 3) := by decide +kernel
theorem dX0_init_25 : decode cX0_init 25 = .ok (.aload_n 0, 1) := by decide +kernel
theorem dX0_init_26 : decode cX0_init 26 = .ok (.iconst 0, 1) := by decide +kernel
theorem dX0_init_27 : decode cX0_init 27 = .ok (.putfield 22, 3) := by decide +kernel
theorem dX0_init_30 : decode cX0_init 30 = .ok (.return_, 1) := by decide +kernel
set_option maxRecDepth 20000 in
theorem ggX0_build_X3_store : GoodIn wsX0_build wsX3_store := goodIn_r _ [7] (by decide +kernel) (by decide +kernel)
set_option maxRecDepth 20000 in
theorem gX0_build_X3_store_n25 : GoodIn wsX0_build (wsX3_store) := ggX0_build_X3_store
set_option maxRecDepth 20000 in
theorem ggX0_build_X3_at : GoodIn wsX0_build wsX3_at := goodIn_r _ [9] (by decide +kernel) (by decide +kernel)
set_option maxRecDepth 20000 in
theorem gX0_build_X3_at_n29 : GoodIn wsX0_build (wsX3_at) := ggX0_build_X3_at
set_option maxRecDepth 20000 in
theorem ggX0_build_X3_has : GoodIn wsX0_build wsX3_has := goodIn_r _ [11] (by decide +kernel) (by decide +kernel)
set_option maxRecDepth 20000 in
theorem gX0_build_X3_has_n33 : GoodIn wsX0_build (wsX3_has) := ggX0_build_X3_has
set_option maxRecDepth 20000 in
theorem ggX0_build_X0_enter : GoodIn wsX0_build wsX0_enter := goodIn_r _ [16, 3, 4, 2, 8, 6, 9, 5, 7, 17, 18, 19, 20] (by decide +kernel) (by decide +kernel)
set_option maxRecDepth 20000 in
theorem gX0_build_X0_enter : GoodIn wsX0_build (wsV RX0 37 RX0 yX0_enter wsX0_enter) := goodIn_app (goodIn_of _ (by decide +kernel)) ggX0_build_X0_enter
theorem dX0_build_0 : decode cX0_build 0 = .ok (.aload_n 0, 1) := by decide +kernel
theorem dX0_build_1 : decode cX0_build 1 = .ok (.iload_n 3, 1) := by decide +kernel
theorem dX0_build_2 : decode cX0_build 2 = .ok (.putfield 18, 3) := by decide +kernel
theorem dX0_build_5 : decode cX0_build 5 = .ok (.aload_n 0, 1) := by decide +kernel
theorem dX0_build_6 : decode cX0_build 6 = .ok (.iconst 0, 1) := by decide +kernel
theorem dX0_build_7 : decode cX0_build 7 = .ok (.putfield 22, 3) := by decide +kernel
theorem dX0_build_10 : decode cX0_build 10 = .ok (.iconst 0, 1) := by decide +kernel
theorem dX0_build_11 : decode cX0_build 11 = .ok (.istore 5, 2) := by decide +kernel
theorem dX0_build_13 : decode cX0_build 13 = .ok (.iload 5, 2) := by decide +kernel
theorem dX0_build_15 : decode cX0_build 15 = .ok (.bipush 12, 2) := by decide +kernel
theorem dX0_build_17 : decode cX0_build 17 = .ok (.if_icmp .ge 29, 3) := by decide +kernel
theorem dX0_build_20 : decode cX0_build 20 = .ok (.aload_n 0, 1) := by decide +kernel
theorem dX0_build_21 : decode cX0_build 21 = .ok (.getfield 9, 3) := by decide +kernel
theorem dX0_build_24 : decode cX0_build 24 = .ok (.iload 5, 2) := by decide +kernel
theorem dX0_build_26 : decode cX0_build 26 = .ok (.iconst 0, 1) := by decide +kernel
theorem dX0_build_27 : decode cX0_build 27 = .ok (.invokestatic 25, 3) := by decide +kernel
theorem dX0_build_30 : decode cX0_build 30 = .ok (.aload_n 0, 1) := by decide +kernel
theorem dX0_build_31 : decode cX0_build 31 = .ok (.getfield 15, 3) := by decide +kernel
theorem dX0_build_34 : decode cX0_build 34 = .ok (.iload 5, 2) := by decide +kernel
theorem dX0_build_36 : decode cX0_build 36 = .ok (.iconst 0, 1) := by decide +kernel
theorem dX0_build_37 : decode cX0_build 37 = .ok (.invokestatic 25, 3) := by decide +kernel
theorem dX0_build_40 : decode cX0_build 40 = .ok (.iinc 5 1, 3) := by decide +kernel
theorem dX0_build_43 : decode cX0_build 43 = .ok (.goto (-30), 3) := by decide +kernel
theorem dX0_build_46 : decode cX0_build 46 = .ok (.iconst 0, 1) := by decide +kernel
theorem dX0_build_47 : decode cX0_build 47 = .ok (.istore 5, 2) := by decide +kernel
theorem dX0_build_49 : decode cX0_build 49 = .ok (.iload 5, 2) := by decide +kernel
theorem dX0_build_51 : decode cX0_build 51 = .ok (.bipush 12, 2) := by decide +kernel
theorem dX0_build_53 : decode cX0_build 53 = .ok (.if_icmp .ge 88, 3) := by decide +kernel
theorem dX0_build_56 : decode cX0_build 56 = .ok (.iconst 0, 1) := by decide +kernel
theorem dX0_build_57 : decode cX0_build 57 = .ok (.istore 6, 2) := by decide +kernel
theorem dX0_build_59 : decode cX0_build 59 = .ok (.iload 6, 2) := by decide +kernel
theorem dX0_build_61 : decode cX0_build 61 = .ok (.bipush 12, 2) := by decide +kernel
theorem dX0_build_63 : decode cX0_build 63 = .ok (.if_icmp .ge 72, 3) := by decide +kernel
theorem dX0_build_66 : decode cX0_build 66 = .ok (.aload_n 2, 1) := by decide +kernel
theorem dX0_build_67 : decode cX0_build 67 = .ok (.iload 5, 2) := by decide +kernel
theorem dX0_build_69 : decode cX0_build 69 = .ok (.invokestatic 29, 3) := by decide +kernel
theorem dX0_build_72 : decode cX0_build 72 = .ok (.iload_n 3, 1) := by decide +kernel
theorem dX0_build_73 : decode cX0_build 73 = .ok (.iand, 1) := by decide +kernel
theorem dX0_build_74 : decode cX0_build 74 = .ok (.iload 6, 2) := by decide +kernel
theorem dX0_build_76 : decode cX0_build 76 = .ok (.invokestatic 33, 3) := by decide +kernel
theorem dX0_build_79 : decode cX0_build 79 = .ok (.ifCond .eq 16, 3) := by decide +kernel
theorem dX0_build_82 : decode cX0_build 82 = .ok (.iload_n 3, 1) := by decide +kernel
theorem dX0_build_83 : decode cX0_build 83 = .ok (.iload 5, 2) := by decide +kernel
theorem dX0_build_85 : decode cX0_build 85 = .ok (.invokestatic 33, 3) := by decide +kernel
theorem dX0_build_88 : decode cX0_build 88 = .ok (.ifCond .eq 7, 3) := by decide +kernel
theorem dX0_build_91 : decode cX0_build 91 = .ok (.iconst 1, 1) := by decide +kernel
theorem dX0_build_92 : decode cX0_build 92 = .ok (.goto 4, 3) := by decide +kernel
theorem dX0_build_95 : decode cX0_build 95 = .ok (.iconst 0, 1) := by decide +kernel
theorem dX0_build_96 : decode cX0_build 96 = .ok (.istore 7, 2) := by decide +kernel
theorem dX0_build_98 : decode cX0_build 98 = .ok (.iload 7, 2) := by decide +kernel
theorem dX0_build_100 : decode cX0_build 100 = .ok (.ifCond .eq 29, 3) := by decide +kernel
theorem dX0_build_103 : decode cX0_build 103 = .ok (.aload_n 1, 1) := by decide +kernel
theorem dX0_build_104 : decode cX0_build 104 = .ok (.iload 6, 2) := by decide +kernel
theorem dX0_build_106 : decode cX0_build 106 = .ok (.invokestatic 29, 3) := by decide +kernel
theorem dX0_build_109 : decode cX0_build 109 = .ok (.aload_n 1, 1) := by decide +kernel
theorem dX0_build_110 : decode cX0_build 110 = .ok (.iload 5, 2) := by decide +kernel
theorem dX0_build_112 : decode cX0_build 112 = .ok (.invokestatic 29, 3) := by decide +kernel
theorem dX0_build_115 : decode cX0_build 115 = .ok (.isub, 1) := by decide +kernel
theorem dX0_build_116 : decode cX0_build 116 = .ok (.iload 4, 2) := by decide +kernel
theorem dX0_build_118 : decode cX0_build 118 = .ok (.if_icmp .gt 11, 3) := by decide +kernel
theorem dX0_build_121 : decode cX0_build 121 = .ok (.aload_n 0, 1) := by decide +kernel
theorem dX0_build_122 : decode cX0_build 122 = .ok (.iload 5, 2) := by decide +kernel
theorem dX0_build_124 : decode cX0_build 124 = .ok (.iload 6, 2) := by decide +kernel
theorem dX0_build_126 : decode cX0_build 126 = .ok (.invokevirtual 37, 3) := by decide +kernel
theorem dX0_build_129 : decode cX0_build 129 = .ok (.iinc 6 1, 3) := by decide +kernel
theorem dX0_build_132 : decode cX0_build 132 = .ok (.goto (-73), 3) := by decide +kernel
theorem dX0_build_135 : decode cX0_build 135 = .ok (.iinc 5 1, 3) := by decide +kernel
theorem dX0_build_138 : decode cX0_build 138 = .ok (.goto (-89), 3) := by decide +kernel
theorem dX0_build_141 : decode cX0_build 141 = .ok (.return_, 1) := by decide +kernel
set_option maxRecDepth 20000 in
theorem ggX0_enter_X3_at : GoodIn wsX0_enter wsX3_at := goodIn_r _ [6] (by decide +kernel) (by decide +kernel)
set_option maxRecDepth 20000 in
theorem gX0_enter_X3_at_n29 : GoodIn wsX0_enter (wsX3_at) := ggX0_enter_X3_at
set_option maxRecDepth 20000 in
theorem ggX0_enter_X3_store : GoodIn wsX0_enter wsX3_store := goodIn_r _ [8] (by decide +kernel) (by decide +kernel)
set_option maxRecDepth 20000 in
theorem gX0_enter_X3_store_n25 : GoodIn wsX0_enter (wsX3_store) := ggX0_enter_X3_store
theorem dX0_enter_0 : decode cX0_enter 0 = .ok (.aload_n 0, 1) := by decide +kernel
theorem dX0_enter_1 : decode cX0_enter 1 = .ok (.getfield 9, 3) := by decide +kernel
theorem dX0_enter_4 : decode cX0_enter 4 = .ok (.iload_n 2, 1) := by decide +kernel
theorem dX0_enter_5 : decode cX0_enter 5 = .ok (.aload_n 0, 1) := by decide +kernel
theorem dX0_enter_6 : decode cX0_enter 6 = .ok (.getfield 9, 3) := by decide +kernel
theorem dX0_enter_9 : decode cX0_enter 9 = .ok (.iload_n 2, 1) := by decide +kernel
theorem dX0_enter_10 : decode cX0_enter 10 = .ok (.invokestatic 29, 3) := by decide +kernel
theorem dX0_enter_13 : decode cX0_enter 13 = .ok (.iconst 1, 1) := by decide +kernel
theorem dX0_enter_14 : decode cX0_enter 14 = .ok (.iload_n 1, 1) := by decide +kernel
theorem dX0_enter_15 : decode cX0_enter 15 = .ok (.ishl, 1) := by decide +kernel
theorem dX0_enter_16 : decode cX0_enter 16 = .ok (.ior, 1) := by decide +kernel
theorem dX0_enter_17 : decode cX0_enter 17 = .ok (.invokestatic 25, 3) := by decide +kernel
theorem dX0_enter_20 : decode cX0_enter 20 = .ok (.aload_n 0, 1) := by decide +kernel
theorem dX0_enter_21 : decode cX0_enter 21 = .ok (.getfield 15, 3) := by decide +kernel
theorem dX0_enter_24 : decode cX0_enter 24 = .ok (.iload_n 1, 1) := by decide +kernel
theorem dX0_enter_25 : decode cX0_enter 25 = .ok (.aload_n 0, 1) := by decide +kernel
theorem dX0_enter_26 : decode cX0_enter 26 = .ok (.getfield 15, 3) := by decide +kernel
theorem dX0_enter_29 : decode cX0_enter 29 = .ok (.iload_n 1, 1) := by decide +kernel
theorem dX0_enter_30 : decode cX0_enter 30 = .ok (.invokestatic 29, 3) := by decide +kernel
theorem dX0_enter_33 : decode cX0_enter 33 = .ok (.iconst 1, 1) := by decide +kernel
theorem dX0_enter_34 : decode cX0_enter 34 = .ok (.iload_n 2, 1) := by decide +kernel
theorem dX0_enter_35 : decode cX0_enter 35 = .ok (.ishl, 1) := by decide +kernel
theorem dX0_enter_36 : decode cX0_enter 36 = .ok (.ior, 1) := by decide +kernel
theorem dX0_enter_37 : decode cX0_enter 37 = .ok (.invokestatic 25, 3) := by decide +kernel
theorem dX0_enter_40 : decode cX0_enter 40 = .ok (.iload_n 1, 1) := by decide +kernel
theorem dX0_enter_41 : decode cX0_enter 41 = .ok (.iload_n 2, 1) := by decide +kernel
theorem dX0_enter_42 : decode cX0_enter 42 = .ok (.if_icmp .ne 15, 3) := by decide +kernel
theorem dX0_enter_45 : decode cX0_enter 45 = .ok (.aload_n 0, 1) := by decide +kernel
theorem dX0_enter_46 : decode cX0_enter 46 = .ok (.dup, 1) := by decide +kernel
theorem dX0_enter_47 : decode cX0_enter 47 = .ok (.getfield 22, 3) := by decide +kernel
theorem dX0_enter_50 : decode cX0_enter 50 = .ok (.iconst 1, 1) := by decide +kernel
theorem dX0_enter_51 : decode cX0_enter 51 = .ok (.iload_n 2, 1) := by decide +kernel
theorem dX0_enter_52 : decode cX0_enter 52 = .ok (.ishl, 1) := by decide +kernel
theorem dX0_enter_53 : decode cX0_enter 53 = .ok (.ior, 1) := by decide +kernel
theorem dX0_enter_54 : decode cX0_enter 54 = .ok (.putfield 22, 3) := by decide +kernel
theorem dX0_enter_57 : decode cX0_enter 57 = .ok (.return_, 1) := by decide +kernel
theorem dX0_present_0 : decode cX0_present 0 = .ok (.aload_n 0, 1) := by decide +kernel
theorem dX0_present_1 : decode cX0_present 1 = .ok (.getfield 18, 3) := by decide +kernel
theorem dX0_present_4 : decode cX0_present 4 = .ok (.ireturn, 1) := by decide +kernel
theorem dX0_selfAttackers_0 : decode cX0_selfAttackers 0 = .ok (.aload_n 0, 1) := by decide +kernel
theorem dX0_selfAttackers_1 : decode cX0_selfAttackers 1 = .ok (.getfield 22, 3) := by decide +kernel
theorem dX0_selfAttackers_4 : decode cX0_selfAttackers 4 = .ok (.ireturn, 1) := by decide +kernel
set_option maxRecDepth 20000 in
theorem ggX0_sourcesOf_X3_at : GoodIn wsX0_sourcesOf wsX3_at := goodIn_r _ [4] (by decide +kernel) (by decide +kernel)
set_option maxRecDepth 20000 in
theorem gX0_sourcesOf_X3_at_n29 : GoodIn wsX0_sourcesOf (wsX3_at) := ggX0_sourcesOf_X3_at
theorem dX0_sourcesOf_0 : decode cX0_sourcesOf 0 = .ok (.aload_n 0, 1) := by decide +kernel
theorem dX0_sourcesOf_1 : decode cX0_sourcesOf 1 = .ok (.getfield 9, 3) := by decide +kernel
theorem dX0_sourcesOf_4 : decode cX0_sourcesOf 4 = .ok (.iload_n 1, 1) := by decide +kernel
theorem dX0_sourcesOf_5 : decode cX0_sourcesOf 5 = .ok (.invokestatic 29, 3) := by decide +kernel
theorem dX0_sourcesOf_8 : decode cX0_sourcesOf 8 = .ok (.ireturn, 1) := by decide +kernel
set_option maxRecDepth 20000 in
theorem ggX0_targetsOf_X3_at : GoodIn wsX0_targetsOf wsX3_at := goodIn_r _ [4] (by decide +kernel) (by decide +kernel)
set_option maxRecDepth 20000 in
theorem gX0_targetsOf_X3_at_n29 : GoodIn wsX0_targetsOf (wsX3_at) := ggX0_targetsOf_X3_at
theorem dX0_targetsOf_0 : decode cX0_targetsOf 0 = .ok (.aload_n 0, 1) := by decide +kernel
theorem dX0_targetsOf_1 : decode cX0_targetsOf 1 = .ok (.getfield 15, 3) := by decide +kernel
theorem dX0_targetsOf_4 : decode cX0_targetsOf 4 = .ok (.iload_n 1, 1) := by decide +kernel
theorem dX0_targetsOf_5 : decode cX0_targetsOf 5 = .ok (.invokestatic 29, 3) := by decide +kernel
theorem dX0_targetsOf_8 : decode cX0_targetsOf 8 = .ok (.ireturn, 1) := by decide +kernel
set_option maxRecDepth 20000 in
theorem ggX0_hitBy_X3_has : GoodIn wsX0_hitBy wsX3_has := goodIn_r _ [4] (by decide +kernel) (by decide +kernel)
set_option maxRecDepth 20000 in
theorem gX0_hitBy_X3_has_n33 : GoodIn wsX0_hitBy (wsX3_has) := ggX0_hitBy_X3_has
set_option maxRecDepth 20000 in
theorem ggX0_hitBy_X3_at : GoodIn wsX0_hitBy wsX3_at := goodIn_r _ [6] (by decide +kernel) (by decide +kernel)
set_option maxRecDepth 20000 in
theorem gX0_hitBy_X3_at_n29 : GoodIn wsX0_hitBy (wsX3_at) := ggX0_hitBy_X3_at
theorem dX0_hitBy_0 : decode cX0_hitBy 0 = .ok (.iconst 0, 1) := by decide +kernel
theorem dX0_hitBy_1 : decode cX0_hitBy 1 = .ok (.istore_n 2, 1) := by decide +kernel
theorem dX0_hitBy_2 : decode cX0_hitBy 2 = .ok (.iconst 0, 1) := by decide +kernel
theorem dX0_hitBy_3 : decode cX0_hitBy 3 = .ok (.istore_n 3, 1) := by decide +kernel
theorem dX0_hitBy_4 : decode cX0_hitBy 4 = .ok (.iload_n 3, 1) := by decide +kernel
theorem dX0_hitBy_5 : decode cX0_hitBy 5 = .ok (.bipush 12, 2) := by decide +kernel
theorem dX0_hitBy_7 : decode cX0_hitBy 7 = .ok (.if_icmp .ge 28, 3) := by decide +kernel
theorem dX0_hitBy_10 : decode cX0_hitBy 10 = .ok (.iload_n 1, 1) := by decide +kernel
theorem dX0_hitBy_11 : decode cX0_hitBy 11 = .ok (.iload_n 3, 1) := by decide +kernel
theorem dX0_hitBy_12 : decode cX0_hitBy 12 = .ok (.invokestatic 33, 3) := by decide +kernel
theorem dX0_hitBy_15 : decode cX0_hitBy 15 = .ok (.ifCond .eq 14, 3) := by decide +kernel
theorem dX0_hitBy_18 : decode cX0_hitBy 18 = .ok (.iload_n 2, 1) := by decide +kernel
theorem dX0_hitBy_19 : decode cX0_hitBy 19 = .ok (.aload_n 0, 1) := by decide +kernel
theorem dX0_hitBy_20 : decode cX0_hitBy 20 = .ok (.getfield 15, 3) := by decide +kernel
theorem dX0_hitBy_23 : decode cX0_hitBy 23 = .ok (.iload_n 3, 1) := by decide +kernel
theorem dX0_hitBy_24 : decode cX0_hitBy 24 = .ok (.invokestatic 29, 3) := by decide +kernel
theorem dX0_hitBy_27 : decode cX0_hitBy 27 = .ok (.ior, 1) := by decide +kernel
theorem dX0_hitBy_28 : decode cX0_hitBy 28 = .ok (.istore_n 2, 1) := by decide +kernel
theorem dX0_hitBy_29 : decode cX0_hitBy 29 = .ok (.iinc 3 1, 3) := by decide +kernel
theorem dX0_hitBy_32 : decode cX0_hitBy 32 = .ok (.goto (-28), 3) := by decide +kernel
theorem dX0_hitBy_35 : decode cX0_hitBy 35 = .ok (.iload_n 2, 1) := by decide +kernel
theorem dX0_hitBy_36 : decode cX0_hitBy 36 = .ok (.ireturn, 1) := by decide +kernel
set_option maxRecDepth 20000 in
theorem ggX0_isPeaceful_X0_hitBy : GoodIn wsX0_isPeaceful wsX0_hitBy := goodIn_r _ [5, 6, 7, 8, 9, 10, 11, 12, 13, 14, 15] (by decide +kernel) (by decide +kernel)
set_option maxRecDepth 20000 in
theorem gX0_isPeaceful_X0_hitBy : GoodIn wsX0_isPeaceful (wsV RX0 41 RX0 yX0_hitBy wsX0_hitBy) := goodIn_app (goodIn_of _ (by decide +kernel)) ggX0_isPeaceful_X0_hitBy
theorem dX0_isPeaceful_0 : decode cX0_isPeaceful 0 = .ok (.iload_n 1, 1) := by decide +kernel
theorem dX0_isPeaceful_1 : decode cX0_isPeaceful 1 = .ok (.aload_n 0, 1) := by decide +kernel
theorem dX0_isPeaceful_2 : decode cX0_isPeaceful 2 = .ok (.iload_n 1, 1) := by decide +kernel
theorem dX0_isPeaceful_3 : decode cX0_isPeaceful 3 = .ok (.invokevirtual 41, 3) := by decide +kernel
theorem dX0_isPeaceful_6 : decode cX0_isPeaceful 6 = .ok (.iand, 1) := by decide +kernel
theorem dX0_isPeaceful_7 : decode cX0_isPeaceful 7 = .ok (.ifCond .ne 7, 3) := by decide +kernel
theorem dX0_isPeaceful_10 : decode cX0_isPeaceful 10 = .ok (.iconst 1, 1) := by decide +kernel
theorem dX0_isPeaceful_11 : decode cX0_isPeaceful 11 = .ok (.goto 4, 3) := by decide +kernel
theorem dX0_isPeaceful_14 : decode cX0_isPeaceful 14 = .ok (.iconst 0, 1) := by decide +kernel
theorem dX0_isPeaceful_15 : decode cX0_isPeaceful 15 = .ok (.ireturn, 1) := by decide +kernel
set_option maxRecDepth 20000 in
theorem ggX0_guardedBy_X0_hitBy : GoodIn wsX0_guardedBy wsX0_hitBy := goodIn_r _ [6, 7, 8, 9, 10, 11, 12, 18, 19, 20, 21] (by decide +kernel) (by decide +kernel)
set_option maxRecDepth 20000 in
theorem gX0_guardedBy_X0_hitBy : GoodIn wsX0_guardedBy (wsV RX0 41 RX0 yX0_hitBy wsX0_hitBy) := goodIn_app (goodIn_of _ (by decide +kernel)) ggX0_guardedBy_X0_hitBy
set_option maxRecDepth 20000 in
theorem ggX0_guardedBy_X0_safeIfHit : GoodIn wsX0_guardedBy wsX0_safeIfHit := goodIn_r _ [16, 17, 8, 9, 10, 11, 12, 18, 19, 20, 21] (by decide +kernel) (by decide +kernel)
set_option maxRecDepth 20000 in
theorem gX0_guardedBy_X0_safeIfHit : GoodIn wsX0_guardedBy (wsV RX0 45 RX0 yX0_safeIfHit wsX0_safeIfHit) := goodIn_app (goodIn_of _ (by decide +kernel)) ggX0_guardedBy_X0_safeIfHit
theorem dX0_guardedBy_0 : decode cX0_guardedBy 0 = .ok (.aload_n 0, 1) := by decide +kernel
theorem dX0_guardedBy_1 : decode cX0_guardedBy 1 = .ok (.aload_n 0, 1) := by decide +kernel
theorem dX0_guardedBy_2 : decode cX0_guardedBy 2 = .ok (.iload_n 1, 1) := by decide +kernel
theorem dX0_guardedBy_3 : decode cX0_guardedBy 3 = .ok (.invokevirtual 41, 3) := by decide +kernel
theorem dX0_guardedBy_6 : decode cX0_guardedBy 6 = .ok (.aload_n 0, 1) := by decide +kernel
theorem dX0_guardedBy_7 : decode cX0_guardedBy 7 = .ok (.getfield 18, 3) := by decide +kernel
theorem dX0_guardedBy_10 : decode cX0_guardedBy 10 = .ok (.invokevirtual 45, 3) := by decide +kernel
theorem dX0_guardedBy_13 : decode cX0_guardedBy 13 = .ok (.ireturn, 1) := by decide +kernel
set_option maxRecDepth 20000 in
theorem ggX0_safeIfHit_X3_has : GoodIn wsX0_safeIfHit wsX3_has := goodIn_r _ [4] (by decide +kernel) (by decide +kernel)
set_option maxRecDepth 20000 in
theorem gX0_safeIfHit_X3_has_n33 : GoodIn wsX0_safeIfHit (wsX3_has) := ggX0_safeIfHit_X3_has
set_option maxRecDepth 20000 in
theorem ggX0_safeIfHit_X3_at : GoodIn wsX0_safeIfHit wsX3_at := goodIn_r _ [6] (by decide +kernel) (by decide +kernel)
set_option maxRecDepth 20000 in
theorem gX0_safeIfHit_X3_at_n29 : GoodIn wsX0_safeIfHit (wsX3_at) := ggX0_safeIfHit_X3_at
theorem dX0_safeIfHit_0 : decode cX0_safeIfHit 0 = .ok (.iconst 0, 1) := by decide +kernel
theorem dX0_safeIfHit_1 : decode cX0_safeIfHit 1 = .ok (.istore_n 3, 1) := by decide +kernel
theorem dX0_safeIfHit_2 : decode cX0_safeIfHit 2 = .ok (.iload_n 2, 1) := by decide +kernel
theorem dX0_safeIfHit_3 : decode cX0_safeIfHit 3 = .ok (.iload_n 1, 1) := by decide +kernel
theorem dX0_safeIfHit_4 : decode cX0_safeIfHit 4 = .ok (.iconst (-1), 1) := by decide +kernel
theorem dX0_safeIfHit_5 : decode cX0_safeIfHit 5 = .ok (.ixor, 1) := by decide +kernel
theorem dX0_safeIfHit_6 : decode cX0_safeIfHit 6 = .ok (.iand, 1) := by decide +kernel
theorem dX0_safeIfHit_7 : decode cX0_safeIfHit 7 = .ok (.istore 4, 2) := by decide +kernel
theorem dX0_safeIfHit_9 : decode cX0_safeIfHit 9 = .ok (.iconst 0, 1) := by decide +kernel
theorem dX0_safeIfHit_10 : decode cX0_safeIfHit 10 = .ok (.istore 5, 2) := by decide +kernel
theorem dX0_safeIfHit_12 : decode cX0_safeIfHit 12 = .ok (.iload 5, 2) := by decide +kernel
theorem dX0_safeIfHit_14 : decode cX0_safeIfHit 14 = .ok (.bipush 12, 2) := by decide +kernel
theorem dX0_safeIfHit_16 : decode cX0_safeIfHit 16 = .ok (.if_icmp .ge 40, 3) := by decide +kernel
theorem dX0_safeIfHit_19 : decode cX0_safeIfHit 19 = .ok (.iload_n 2, 1) := by decide +kernel
theorem dX0_safeIfHit_20 : decode cX0_safeIfHit 20 = .ok (.iload 5, 2) := by decide +kernel
theorem dX0_safeIfHit_22 : decode cX0_safeIfHit 22 = .ok (.invokestatic 33, 3) := by decide +kernel
theorem dX0_safeIfHit_25 : decode cX0_safeIfHit 25 = .ok (.ifCond .eq 25, 3) := by decide +kernel
theorem dX0_safeIfHit_28 : decode cX0_safeIfHit 28 = .ok (.aload_n 0, 1) := by decide +kernel
theorem dX0_safeIfHit_29 : decode cX0_safeIfHit 29 = .ok (.getfield 9, 3) := by decide +kernel
theorem dX0_safeIfHit_32 : decode cX0_safeIfHit 32 = .ok (.iload 5, 2) := by decide +kernel
theorem dX0_safeIfHit_34 : decode cX0_safeIfHit 34 = .ok (.invokestatic 29, 3) := by decide +kernel
theorem dX0_safeIfHit_37 : decode cX0_safeIfHit 37 = .ok (.iload 4, 2) := by decide +kernel
theorem dX0_safeIfHit_39 : decode cX0_safeIfHit 39 = .ok (.iand, 1) := by decide +kernel
theorem dX0_safeIfHit_40 : decode cX0_safeIfHit 40 = .ok (.ifCond .ne 10, 3) := by decide +kernel
theorem dX0_safeIfHit_43 : decode cX0_safeIfHit 43 = .ok (.iload_n 3, 1) := by decide +kernel
theorem dX0_safeIfHit_44 : decode cX0_safeIfHit 44 = .ok (.iconst 1, 1) := by decide +kernel
theorem dX0_safeIfHit_45 : decode cX0_safeIfHit 45 = .ok (.iload 5, 2) := by decide +kernel
theorem dX0_safeIfHit_47 : decode cX0_safeIfHit 47 = .ok (.ishl, 1) := by decide +kernel
theorem dX0_safeIfHit_48 : decode cX0_safeIfHit 48 = .ok (.ior, 1) := by decide +kernel
theorem dX0_safeIfHit_49 : decode cX0_safeIfHit 49 = .ok (.istore_n 3, 1) := by decide +kernel
theorem dX0_safeIfHit_50 : decode cX0_safeIfHit 50 = .ok (.iinc 5 1, 3) := by decide +kernel
theorem dX0_safeIfHit_53 : decode cX0_safeIfHit 53 = .ok (.goto (-41), 3) := by decide +kernel
theorem dX0_safeIfHit_56 : decode cX0_safeIfHit 56 = .ok (.iload_n 3, 1) := by decide +kernel
theorem dX0_safeIfHit_57 : decode cX0_safeIfHit 57 = .ok (.ireturn, 1) := by decide +kernel
set_option maxRecDepth 20000 in
theorem ggX0_guardedPart_X0_guardedBy : GoodIn wsX0_guardedPart wsX0_guardedBy := goodIn_r _ [5, 6, 7, 8, 9, 4, 10, 11, 12, 13, 14, 15, 16, 17, 18, 19, 20, 21, 22, 23, 24, 25] (by decide +kernel) (by decide +kernel)
set_option maxRecDepth 20000 in
theorem gX0_guardedPart_X0_guardedBy : GoodIn wsX0_guardedPart (wsV RX0 49 RX0 yX0_guardedBy wsX0_guardedBy) := goodIn_app (goodIn_of _ (by decide +kernel)) ggX0_guardedPart_X0_guardedBy
theorem dX0_guardedPart_0 : decode cX0_guardedPart 0 = .ok (.iload_n 1, 1) := by decide +kernel
theorem dX0_guardedPart_1 : decode cX0_guardedPart 1 = .ok (.istore_n 2, 1) := by decide +kernel
theorem dX0_guardedPart_2 : decode cX0_guardedPart 2 = .ok (.iconst 0, 1) := by decide +kernel
theorem dX0_guardedPart_3 : decode cX0_guardedPart 3 = .ok (.istore_n 3, 1) := by decide +kernel
theorem dX0_guardedPart_4 : decode cX0_guardedPart 4 = .ok (.iload_n 3, 1) := by decide +kernel
theorem dX0_guardedPart_5 : decode cX0_guardedPart 5 = .ok (.bipush 12, 2) := by decide +kernel
theorem dX0_guardedPart_7 : decode cX0_guardedPart 7 = .ok (.if_icmp .ge 17, 3) := by decide +kernel
theorem dX0_guardedPart_10 : decode cX0_guardedPart 10 = .ok (.iload_n 2, 1) := by decide +kernel
theorem dX0_guardedPart_11 : decode cX0_guardedPart 11 = .ok (.aload_n 0, 1) := by decide +kernel
theorem dX0_guardedPart_12 : decode cX0_guardedPart 12 = .ok (.iload_n 2, 1) := by decide +kernel
theorem dX0_guardedPart_13 : decode cX0_guardedPart 13 = .ok (.invokevirtual 49, 3) := by decide +kernel
theorem dX0_guardedPart_16 : decode cX0_guardedPart 16 = .ok (.iand, 1) := by decide +kernel
theorem dX0_guardedPart_17 : decode cX0_guardedPart 17 = .ok (.istore_n 2, 1) := by decide +kernel
theorem dX0_guardedPart_18 : decode cX0_guardedPart 18 = .ok (.iinc 3 1, 3) := by decide +kernel
theorem dX0_guardedPart_21 : decode cX0_guardedPart 21 = .ok (.goto (-17), 3) := by decide +kernel
theorem dX0_guardedPart_24 : decode cX0_guardedPart 24 = .ok (.iload_n 2, 1) := by decide +kernel
theorem dX0_guardedPart_25 : decode cX0_guardedPart 25 = .ok (.ireturn, 1) := by decide +kernel
set_option maxRecDepth 20000 in
theorem ggX0_groundedWithin_X0_hitBy : GoodIn wsX0_groundedWithin wsX0_hitBy := goodIn_r _ [5, 6, 7, 8, 9, 10, 11, 17, 18, 19, 20] (by decide +kernel) (by decide +kernel)
set_option maxRecDepth 20000 in
theorem gX0_groundedWithin_X0_hitBy : GoodIn wsX0_groundedWithin (wsV RX0 41 RX0 yX0_hitBy wsX0_hitBy) := goodIn_app (goodIn_of _ (by decide +kernel)) ggX0_groundedWithin_X0_hitBy
set_option maxRecDepth 20000 in
theorem ggX0_groundedWithin_X0_safeIfHit : GoodIn wsX0_groundedWithin wsX0_safeIfHit := goodIn_r _ [15, 16, 7, 8, 9, 10, 11, 17, 18, 19, 20] (by decide +kernel) (by decide +kernel)
set_option maxRecDepth 20000 in
theorem gX0_groundedWithin_X0_safeIfHit : GoodIn wsX0_groundedWithin (wsV RX0 45 RX0 yX0_safeIfHit wsX0_safeIfHit) := goodIn_app (goodIn_of _ (by decide +kernel)) ggX0_groundedWithin_X0_safeIfHit
theorem dX0_groundedWithin_0 : decode cX0_groundedWithin 0 = .ok (.iconst 0, 1) := by decide +kernel
theorem dX0_groundedWithin_1 : decode cX0_groundedWithin 1 = .ok (.istore_n 2, 1) := by decide +kernel
theorem dX0_groundedWithin_2 : decode cX0_groundedWithin 2 = .ok (.iconst 0, 1) := by decide +kernel
theorem dX0_groundedWithin_3 : decode cX0_groundedWithin 3 = .ok (.istore_n 3, 1) := by decide +kernel
theorem dX0_groundedWithin_4 : decode cX0_groundedWithin 4 = .ok (.iload_n 3, 1) := by decide +kernel
theorem dX0_groundedWithin_5 : decode cX0_groundedWithin 5 = .ok (.bipush 12, 2) := by decide +kernel
theorem dX0_groundedWithin_7 : decode cX0_groundedWithin 7 = .ok (.if_icmp .ge 32, 3) := by decide +kernel
theorem dX0_groundedWithin_10 : decode cX0_groundedWithin 10 = .ok (.aload_n 0, 1) := by decide +kernel
theorem dX0_groundedWithin_11 : decode cX0_groundedWithin 11 = .ok (.aload_n 0, 1) := by decide +kernel
theorem dX0_groundedWithin_12 : decode cX0_groundedWithin 12 = .ok (.iload_n 2, 1) := by decide +kernel
theorem dX0_groundedWithin_13 : decode cX0_groundedWithin 13 = .ok (.invokevirtual 41, 3) := by decide +kernel
theorem dX0_groundedWithin_16 : decode cX0_groundedWithin 16 = .ok (.iload_n 1, 1) := by decide +kernel
theorem dX0_groundedWithin_17 : decode cX0_groundedWithin 17 = .ok (.invokevirtual 45, 3) := by decide +kernel
theorem dX0_groundedWithin_20 : decode cX0_groundedWithin 20 = .ok (.istore 4, 2) := by decide +kernel
theorem dX0_groundedWithin_22 : decode cX0_groundedWithin 22 = .ok (.iload 4, 2) := by decide +kernel
theorem dX0_groundedWithin_24 : decode cX0_groundedWithin 24 = .ok (.iload_n 2, 1) := by decide +kernel
theorem dX0_groundedWithin_25 : decode cX0_groundedWithin 25 = .ok (.if_icmp .ne 5, 3) := by decide +kernel
theorem dX0_groundedWithin_28 : decode cX0_groundedWithin 28 = .ok (.iload_n 2, 1) := by decide +kernel
theorem dX0_groundedWithin_29 : decode cX0_groundedWithin 29 = .ok (.ireturn, 1) := by decide +kernel
theorem dX0_groundedWithin_30 : decode cX0_groundedWithin 30 = .ok (.iload 4, 2) := by decide +kernel
theorem dX0_groundedWithin_32 : decode cX0_groundedWithin 32 = .ok (.istore_n 2, 1) := by decide +kernel
theorem dX0_groundedWithin_33 : decode cX0_groundedWithin 33 = .ok (.iinc 3 1, 3) := by decide +kernel
theorem dX0_groundedWithin_36 : decode cX0_groundedWithin 36 = .ok (.goto (-32), 3) := by decide +kernel
theorem dX0_groundedWithin_39 : decode cX0_groundedWithin 39 = .ok (.iload_n 2, 1) := by decide +kernel
theorem dX0_groundedWithin_40 : decode cX0_groundedWithin 40 = .ok (.ireturn, 1) := by decide +kernel
set_option maxRecDepth 20000 in
theorem ggX0_reachedFrom_X3_at : GoodIn wsX0_reachedFrom wsX3_at := goodIn_r _ [4] (by decide +kernel) (by decide +kernel)
set_option maxRecDepth 20000 in
theorem gX0_reachedFrom_X3_at_n29 : GoodIn wsX0_reachedFrom (wsX3_at) := ggX0_reachedFrom_X3_at
set_option maxRecDepth 20000 in
theorem ggX0_reachedFrom_X0_hitBy : GoodIn wsX0_reachedFrom wsX0_hitBy := goodIn_r _ [9, 1, 10, 3, 11, 2, 4, 12, 13, 14, 15] (by decide +kernel) (by decide +kernel)
set_option maxRecDepth 20000 in
theorem gX0_reachedFrom_X0_hitBy : GoodIn wsX0_reachedFrom (wsV RX0 41 RX0 yX0_hitBy wsX0_hitBy) := goodIn_app (goodIn_of _ (by decide +kernel)) ggX0_reachedFrom_X0_hitBy
theorem dX0_reachedFrom_0 : decode cX0_reachedFrom 0 = .ok (.aload_n 0, 1) := by decide +kernel
theorem dX0_reachedFrom_1 : decode cX0_reachedFrom 1 = .ok (.getfield 15, 3) := by decide +kernel
theorem dX0_reachedFrom_4 : decode cX0_reachedFrom 4 = .ok (.iload_n 1, 1) := by decide +kernel
theorem dX0_reachedFrom_5 : decode cX0_reachedFrom 5 = .ok (.invokestatic 29, 3) := by decide +kernel
theorem dX0_reachedFrom_8 : decode cX0_reachedFrom 8 = .ok (.istore_n 3, 1) := by decide +kernel
theorem dX0_reachedFrom_9 : decode cX0_reachedFrom 9 = .ok (.iconst 0, 1) := by decide +kernel
theorem dX0_reachedFrom_10 : decode cX0_reachedFrom 10 = .ok (.istore 4, 2) := by decide +kernel
theorem dX0_reachedFrom_12 : decode cX0_reachedFrom 12 = .ok (.iconst 0, 1) := by decide +kernel
theorem dX0_reachedFrom_13 : decode cX0_reachedFrom 13 = .ok (.istore 5, 2) := by decide +kernel
theorem dX0_reachedFrom_15 : decode cX0_reachedFrom 15 = .ok (.iload 5, 2) := by decide +kernel
theorem dX0_reachedFrom_17 : decode cX0_reachedFrom 17 = .ok (.bipush 12, 2) := by decide +kernel
theorem dX0_reachedFrom_19 : decode cX0_reachedFrom 19 = .ok (.if_icmp .ge 28, 3) := by decide +kernel
theorem dX0_reachedFrom_22 : decode cX0_reachedFrom 22 = .ok (.iload 4, 2) := by decide +kernel
theorem dX0_reachedFrom_24 : decode cX0_reachedFrom 24 = .ok (.aload_n 0, 1) := by decide +kernel
theorem dX0_reachedFrom_25 : decode cX0_reachedFrom 25 = .ok (.iload_n 3, 1) := by decide +kernel
theorem dX0_reachedFrom_26 : decode cX0_reachedFrom 26 = .ok (.invokevirtual 41, 3) := by decide +kernel
theorem dX0_reachedFrom_29 : decode cX0_reachedFrom 29 = .ok (.ior, 1) := by decide +kernel
theorem dX0_reachedFrom_30 : decode cX0_reachedFrom 30 = .ok (.istore 4, 2) := by decide +kernel
theorem dX0_reachedFrom_32 : decode cX0_reachedFrom 32 = .ok (.iload_n 3, 1) := by decide +kernel
theorem dX0_reachedFrom_33 : decode cX0_reachedFrom 33 = .ok (.aload_n 0, 1) := by decide +kernel
theorem dX0_reachedFrom_34 : decode cX0_reachedFrom 34 = .ok (.iload 4, 2) := by decide +kernel
theorem dX0_reachedFrom_36 : decode cX0_reachedFrom 36 = .ok (.invokevirtual 41, 3) := by decide +kernel
theorem dX0_reachedFrom_39 : decode cX0_reachedFrom 39 = .ok (.ior, 1) := by decide +kernel
theorem dX0_reachedFrom_40 : decode cX0_reachedFrom 40 = .ok (.istore_n 3, 1) := by decide +kernel
theorem dX0_reachedFrom_41 : decode cX0_reachedFrom 41 = .ok (.iinc 5 1, 3) := by decide +kernel
theorem dX0_reachedFrom_44 : decode cX0_reachedFrom 44 = .ok (.goto (-29), 3) := by decide +kernel
theorem dX0_reachedFrom_47 : decode cX0_reachedFrom 47 = .ok (.iload_n 2, 1) := by decide +kernel
theorem dX0_reachedFrom_48 : decode cX0_reachedFrom 48 = .ok (.ifCond .eq 8, 3) := by decide +kernel
theorem dX0_reachedFrom_51 : decode cX0_reachedFrom 51 = .ok (.iload 4, 2) := by decide +kernel
theorem dX0_reachedFrom_53 : decode cX0_reachedFrom 53 = .ok (.goto 4, 3) := by decide +kernel
theorem dX0_reachedFrom_56 : decode cX0_reachedFrom 56 = .ok (.iload_n 3, 1) := by decide +kernel
theorem dX0_reachedFrom_57 : decode cX0_reachedFrom 57 = .ok (.ireturn, 1) := by decide +kernel
set_option maxRecDepth 20000 in
theorem ggX1_init_X2_init : GoodIn wsX1_init wsX2_init := goodIn_r _ [20, 21, 2, 3, 15, 22, 23, 24, 25] (by decide +kernel) (by decide +kernel)
set_option maxRecDepth 20000 in
theorem gX1_init_X2_init : GoodIn wsX1_init (wsX2_init) := ggX1_init_X2_init
theorem dX1_init_0 : decode cX1_init 0 = .ok (.aload_n 0, 1) := by decide +kernel
theorem dX1_init_1 : decode cX1_init 1 = .ok (.invokespecial 3, 3) := by decide +kernel
theorem dX1_init_4 : decode cX1_init 4 = .ok (.aload_n 0, 1) := by decide +kernel
theorem dX1_init_5 : decode cX1_init 5 = .ok (.new 9, 3) := by decide +kernel
theorem dX1_init_8 : decode cX1_init 8 = .ok (.dup, 1) := by decide +kernel
theorem dX1_init_9 : decode cX1_init 9 = .ok (.invokespecial 11, 3) := by decide +kernel
theorem dX1_init_12 : decode cX1_init 12 = .ok (.putfield 12, 3) := by decide +kernel
theorem dX1_init_15 : decode cX1_init 15 = .ok (.aload_n 0, 1) := by decide +kernel
theorem dX1_init_16 : decode cX1_init 16 = .ok (.new 9, 3) := by decide +kernel
theorem dX1_init_19 : decode cX1_init 19 = .ok (.dup, 1) := by decide +kernel
theorem dX1_init_20 : decode cX1_init 20 = .ok (.invokespecial 11, 3) := by decide +kernel
theorem dX1_init_23 : decode cX1_init 23 = .ok (.putfield 18, 3) := by decide +kernel
theorem dX1_init_26 : decode cX1_init 26 = .ok (.aload_n 0, 1) := by decide +kernel
theorem dX1_init_27 : decode cX1_init 27 = .ok (.new 9, 3) := by decide +kernel
theorem dX1_init_30 : decode cX1_init 30 = .ok (.dup, 1) := by decide +kernel
theorem dX1_init_31 : decode cX1_init 31 = .ok (.invokespecial 11, 3) := by decide +kernel
theorem dX1_init_34 : decode cX1_init 34 = .ok (.putfield 21, 3) := by decide +kernel
theorem dX1_init_37 : decode cX1_init 37 = .ok (.aload_n 0, 1) := by decide +kernel
theorem dX1_init_38 : decode cX1_init 38 = .ok (.new 9, 3) := by decide +kernel
theorem dX1_init_41 : decode cX1_init 41 = .ok (.dup, 1) := by decide +kernel
theorem dX1_init_42 : decode cX1_init 42 = .ok (.invokespecial 11, 3) := by decide +kernel
theorem dX1_init_45 : decode cX1_init 45 = .ok (.putfield 24, 3) := by decide +kernel
theorem dX1_init_48 : decode cX1_init 48 = .ok (.aload_n 0, 1) := by decide +kernel
theorem dX1_init_49 : decode cX1_init 49 = .ok (.new 9, 3) := by decide +kernel
theorem dX1_init_52 : decode cX1_init 52 = .ok (.dup, 1) := by decide +kernel
theorem dX1_init_53 : decode cX1_init 53 = .ok (.invokespecial 11, 3) := by decide +kernel
theorem dX1_init_56 : decode cX1_init 56 = .ok (.putfield 27, 3) := by decide +kernel
theorem dX1_init_59 : decode cX1_init 59 = .ok (.aload_n 0, 1) := by decide +kernel
theorem dX1_init_60 : decode cX1_init 60 = .ok (.new 9, 3) := by decide +kernel
theorem dX1_init_63 : decode cX1_init 63 = .ok (.dup, 1) := by decide +kernel
theorem dX1_init_64 : decode cX1_init 64 = .ok (.invokespecial 11, 3) := by decide +kernel
theorem dX1_init_67 : decode cX1_init 67 = .ok (.putfield 30, 3) := by decide +kernel
theorem dX1_init_70 : decode cX1_init 70 = .ok (.aload_n 0, 1) := by decide +kernel
theorem dX1_init_71 : decode cX1_init 71 = .ok (.new 9, 3) := by decide +kernel
theorem dX1_init_74 : decode cX1_init 74 = .ok (.dup, 1) := by decide +kernel
theorem dX1_init_75 : decode cX1_init 75 = .ok (.invokespecial 11, 3) := by decide +kernel
theorem dX1_init_78 : decode cX1_init 78 = .ok (.putfield 33, 3) := by decide +kernel
theorem dX1_init_81 : decode cX1_init 81 = .ok (.aload_n 0, 1) := by decide +kernel
theorem dX1_init_82 : decode cX1_init 82 = .ok (.new 9, 3) := by decide +kernel
theorem dX1_init_85 : decode cX1_init 85 = .ok (.dup, 1) := by decide +kernel
theorem dX1_init_86 : decode cX1_init 86 = .ok (.invokespecial 11, 3) := by decide +kernel
theorem dX1_init_89 : decode cX1_init 89 = .ok (.putfield 36, 3) := by decide +kernel
theorem dX1_init_92 : decode cX1_init 92 = .ok (.aload_n 0, 1) := by decide +kernel
theorem dX1_init_93 : decode cX1_init 93 = .ok (.sipush 4096, 3) := by decide +kernel
theorem dX1_init_96 : decode cX1_init 96 = .ok (.newarray .int, 2) := by decide +kernel
theorem dX1_init_98 : decode cX1_init 98 = .ok (.putfield 39, 3) := by decide +kernel
theorem dX1_init_101 : decode cX1_init 101 = .ok (.aload_n 0, 1) := by decide +kernel
theorem dX1_init_102 : decode cX1_init 102 = .ok (.sipush 4096, 3) := by decide +kernel
theorem dX1_init_105 : decode cX1_init 105 = .ok (.newarray .int, 2) := by decide +kernel
theorem dX1_init_107 : decode cX1_init 107 = .ok (.putfield 43, 3) := by decide +kernel
theorem dX1_init_110 : decode cX1_init 110 = .ok (.return_, 1) := by decide +kernel
theorem dX1_ofKind_0 : decode cX1_ofKind 0 = .ok (.iload_n 1, 1) := by decide +kernel
theorem dX1_ofKind_1 : decode cX1_ofKind 1 = .ok (.tableswitch 73 0 6 #[43, 48, 53, 58, 63, 68, 73], 43) := by decide +kernel
theorem dX1_ofKind_44 : decode cX1_ofKind 44 = .ok (.aload_n 0, 1) := by decide +kernel
theorem dX1_ofKind_45 : decode cX1_ofKind 45 = .ok (.getfield 12, 3) := by decide +kernel
theorem dX1_ofKind_48 : decode cX1_ofKind 48 = .ok (.areturn, 1) := by decide +kernel
theorem dX1_ofKind_49 : decode cX1_ofKind 49 = .ok (.aload_n 0, 1) := by decide +kernel
theorem dX1_ofKind_50 : decode cX1_ofKind 50 = .ok (.getfield 18, 3) := by decide +kernel
theorem dX1_ofKind_53 : decode cX1_ofKind 53 = .ok (.areturn, 1) := by decide +kernel
theorem dX1_ofKind_54 : decode cX1_ofKind 54 = .ok (.aload_n 0, 1) := by decide +kernel
theorem dX1_ofKind_55 : decode cX1_ofKind 55 = .ok (.getfield 21, 3) := by decide +kernel
theorem dX1_ofKind_58 : decode cX1_ofKind 58 = .ok (.areturn, 1) := by decide +kernel
theorem dX1_ofKind_59 : decode cX1_ofKind 59 = .ok (.aload_n 0, 1) := by decide +kernel
theorem dX1_ofKind_60 : decode cX1_ofKind 60 = .ok (.getfield 24, 3) := by decide +kernel
theorem dX1_ofKind_63 : decode cX1_ofKind 63 = .ok (.areturn, 1) := by decide +kernel
theorem dX1_ofKind_64 : decode cX1_ofKind 64 = .ok (.aload_n 0, 1) := by decide +kernel
theorem dX1_ofKind_65 : decode cX1_ofKind 65 = .ok (.getfield 27, 3) := by decide +kernel
theorem dX1_ofKind_68 : decode cX1_ofKind 68 = .ok (.areturn, 1) := by decide +kernel
theorem dX1_ofKind_69 : decode cX1_ofKind 69 = .ok (.aload_n 0, 1) := by decide +kernel
theorem dX1_ofKind_70 : decode cX1_ofKind 70 = .ok (.getfield 30, 3) := by decide +kernel
theorem dX1_ofKind_73 : decode cX1_ofKind 73 = .ok (.areturn, 1) := by decide +kernel
theorem dX1_ofKind_74 : decode cX1_ofKind 74 = .ok (.aload_n 0, 1) := by decide +kernel
theorem dX1_ofKind_75 : decode cX1_ofKind 75 = .ok (.getfield 33, 3) := by decide +kernel
theorem dX1_ofKind_78 : decode cX1_ofKind 78 = .ok (.areturn, 1) := by decide +kernel
set_option maxRecDepth 20000 in
theorem ggX1_find_X0_present : GoodIn wsX1_find wsX0_present := goodIn_r _ [12, 13, 124, 125, 126, 127] (by decide +kernel) (by decide +kernel)
set_option maxRecDepth 20000 in
theorem gX1_find_X0_present : GoodIn wsX1_find (wsV RX1 46 RX0 yX0_present wsX0_present) := goodIn_app (goodIn_of _ (by decide +kernel)) ggX1_find_X0_present
set_option maxRecDepth 20000 in
theorem ggX1_find_X1_clear : GoodIn wsX1_find wsX1_clear := goodIn_r _ [18, 4, 19, 20, 21, 17, 22, 2, 1, 3, 23, 5, 6, 7, 24, 25, 26, 27, 28, 29, 114, 115, 116, 117, 118, 119, 120, 121, 122, 123, 128, 129] (by decide +kernel) (by decide +kernel)
set_option maxRecDepth 20000 in
theorem gX1_find_X1_clear : GoodIn wsX1_find (wsV RX1 52 RX1 yX1_clear wsX1_clear) := goodIn_app (goodIn_of _ (by decide +kernel)) ggX1_find_X1_clear
set_option maxRecDepth 20000 in
theorem ggX1_find_X1_judge : GoodIn wsX1_find wsX1_judge := goodIn_r _ [33, 34, 35, 2, 23, 4, 8, 9, 10, 11, 12, 13, 36, 37, 38, 39, 40, 41, 42, 43, 44, 45, 46, 47, 48, 27, 49, 29, 50, 51, 52, 53, 54, 55, 56, 57, 114, 115, 116, 117, 118, 119, 120, 121, 122, 123, 124, 125, 126, 127, 128, 129] (by decide +kernel) (by decide +kernel)
set_option maxRecDepth 20000 in
theorem gX1_find_X1_judge : GoodIn wsX1_find (wsV RX1 55 RX1 yX1_judge wsX1_judge) := goodIn_app (goodIn_of _ (by decide +kernel)) ggX1_find_X1_judge
set_option maxRecDepth 20000 in
theorem ggX1_find_X3_has : GoodIn wsX1_find wsX3_has := goodIn_r _ [45] (by decide +kernel) (by decide +kernel)
set_option maxRecDepth 20000 in
theorem gX1_find_X3_has_n59 : GoodIn wsX1_find (wsX3_has) := ggX1_find_X3_has
set_option maxRecDepth 20000 in
theorem ggX1_find_X1_judgeAllWith : GoodIn wsX1_find wsX1_judgeAllWith := goodIn_r _ [61, 34, 35, 8, 9, 10, 11, 12, 13, 36, 37, 38, 62, 63, 64, 65, 66, 51, 52, 67, 68, 69, 70, 43, 30, 31, 32, 17, 33, 2, 23, 4, 39, 40, 41, 42, 44, 45, 46, 47, 48, 27, 49, 29, 50, 53, 54, 55, 56, 57, 114, 115, 116, 117, 118, 119, 120, 121, 122, 123, 124, 125, 126, 127, 128, 129] (by decide +kernel) (by decide +kernel)
set_option maxRecDepth 20000 in
theorem gX1_find_X1_judgeAllWith : GoodIn wsX1_find (wsV RX1 63 RX1 yX1_judgeAllWith wsX1_judgeAllWith) := goodIn_app (goodIn_of _ (by decide +kernel)) ggX1_find_X1_judgeAllWith
set_option maxRecDepth 20000 in
theorem ggX1_find_X0_groundedWithin : GoodIn wsX1_find wsX0_groundedWithin := goodIn_r _ [74, 75, 76, 77, 11, 78, 66, 44, 37, 45, 36, 38, 79, 40, 41, 42, 43, 124, 125, 126, 127] (by decide +kernel) (by decide +kernel)
set_option maxRecDepth 20000 in
theorem gX1_find_X0_groundedWithin : GoodIn wsX1_find (wsV RX1 66 RX0 yX0_groundedWithin wsX0_groundedWithin) := goodIn_app (goodIn_of _ (by decide +kernel)) ggX1_find_X0_groundedWithin
set_option maxRecDepth 20000 in
theorem ggX1_find_X2_add : GoodIn wsX1_find wsX2_add := goodIn_r _ [49, 29, 50, 51, 37, 52, 128, 129] (by decide +kernel) (by decide +kernel)
set_option maxRecDepth 20000 in
theorem gX1_find_X2_add : GoodIn wsX1_find (wsV RX1 70 RX2 yX2_add wsX2_add) := goodIn_app (goodIn_of _ (by decide +kernel)) ggX1_find_X2_add
set_option maxRecDepth 20000 in
theorem ggX1_find_X1_keepLargest : GoodIn wsX1_find wsX1_keepLargest := goodIn_r _ [82, 83, 84, 85, 27, 86, 29, 87, 88, 89, 90, 50, 36, 37, 38, 46, 47, 48, 49, 51, 52, 128, 129] (by decide +kernel) (by decide +kernel)
set_option maxRecDepth 20000 in
theorem gX1_find_X1_keepLargest : GoodIn wsX1_find (va_wsS RX1 74 yX1_keepLargest wsX1_keepLargest) := goodIn_app (goodIn_of _ (by decide +kernel)) ggX1_find_X1_keepLargest
set_option maxRecDepth 20000 in
theorem ggX1_find_X1_keepWidest : GoodIn wsX1_find wsX1_keepWidest := goodIn_r _ [94, 83, 84, 85, 27, 86, 29, 87, 88, 89, 90, 50, 36, 37, 38, 95, 96, 97, 17, 98, 34, 99, 100, 101, 46, 47, 48, 49, 51, 52, 128, 129, 114, 115, 116, 117, 118, 119, 120, 121, 122, 123] (by decide +kernel) (by decide +kernel)
set_option maxRecDepth 20000 in
theorem gX1_find_X1_keepWidest : GoodIn wsX1_find (wsV RX1 78 RX1 yX1_keepWidest wsX1_keepWidest) := goodIn_app (goodIn_of _ (by decide +kernel)) ggX1_find_X1_keepWidest
set_option maxRecDepth 20000 in
theorem ggX1_find_X2_commonPart : GoodIn wsX1_find wsX2_commonPart := goodIn_r _ [105, 29, 50, 36, 37, 38, 128, 129] (by decide +kernel) (by decide +kernel)
set_option maxRecDepth 20000 in
theorem gX1_find_X2_commonPart : GoodIn wsX1_find (wsV RX1 81 RX2 yX2_commonPart wsX2_commonPart) := goodIn_app (goodIn_of _ (by decide +kernel)) ggX1_find_X2_commonPart
set_option maxRecDepth 20000 in
theorem ggX1_find_X0_guardedPart : GoodIn wsX1_find wsX0_guardedPart := goodIn_r _ [109, 110, 111, 112, 11, 113, 13, 75, 76, 77, 78, 66, 44, 37, 45, 36, 38, 79, 40, 41, 42, 43, 124, 125, 126, 127] (by decide +kernel) (by decide +kernel)
set_option maxRecDepth 20000 in
theorem gX1_find_X0_guardedPart : GoodIn wsX1_find (wsV RX1 84 RX0 yX0_guardedPart wsX0_guardedPart) := goodIn_app (goodIn_of _ (by decide +kernel)) ggX1_find_X0_guardedPart
theorem dX1_find_0 : decode cX1_find 0 = .ok (.aload_n 1, 1) := by decide +kernel
theorem dX1_find_1 : decode cX1_find 1 = .ok (.invokevirtual 46, 3) := by decide +kernel
theorem dX1_find_4 : decode cX1_find 4 = .ok (.istore_n 2, 1) := by decide +kernel
theorem dX1_find_5 : decode cX1_find 5 = .ok (.aload_n 0, 1) := by decide +kernel
theorem dX1_find_6 : decode cX1_find 6 = .ok (.invokevirtual 52, 3) := by decide +kernel
theorem dX1_find_9 : decode cX1_find 9 = .ok (.aload_n 0, 1) := by decide +kernel
theorem dX1_find_10 : decode cX1_find 10 = .ok (.aload_n 1, 1) := by decide +kernel
theorem dX1_find_11 : decode cX1_find 11 = .ok (.iconst 0, 1) := by decide +kernel
theorem dX1_find_12 : decode cX1_find 12 = .ok (.invokevirtual 55, 3) := by decide +kernel
theorem dX1_find_15 : decode cX1_find 15 = .ok (.iconst 0, 1) := by decide +kernel
theorem dX1_find_16 : decode cX1_find 16 = .ok (.istore_n 3, 1) := by decide +kernel
theorem dX1_find_17 : decode cX1_find 17 = .ok (.iload_n 3, 1) := by decide +kernel
theorem dX1_find_18 : decode cX1_find 18 = .ok (.bipush 12, 2) := by decide +kernel
theorem dX1_find_20 : decode cX1_find 20 = .ok (.if_icmp .ge 23, 3) := by decide +kernel
theorem dX1_find_23 : decode cX1_find 23 = .ok (.iload_n 2, 1) := by decide +kernel
theorem dX1_find_24 : decode cX1_find 24 = .ok (.iload_n 3, 1) := by decide +kernel
theorem dX1_find_25 : decode cX1_find 25 = .ok (.invokestatic 59, 3) := by decide +kernel
theorem dX1_find_28 : decode cX1_find 28 = .ok (.ifCond .eq 9, 3) := by decide +kernel
theorem dX1_find_31 : decode cX1_find 31 = .ok (.aload_n 0, 1) := by decide +kernel
theorem dX1_find_32 : decode cX1_find 32 = .ok (.aload_n 1, 1) := by decide +kernel
theorem dX1_find_33 : decode cX1_find 33 = .ok (.iload_n 3, 1) := by decide +kernel
theorem dX1_find_34 : decode cX1_find 34 = .ok (.invokevirtual 63, 3) := by decide +kernel
theorem dX1_find_37 : decode cX1_find 37 = .ok (.iinc 3 1, 3) := by decide +kernel
theorem dX1_find_40 : decode cX1_find 40 = .ok (.goto (-23), 3) := by decide +kernel
theorem dX1_find_43 : decode cX1_find 43 = .ok (.aload_n 0, 1) := by decide +kernel
theorem dX1_find_44 : decode cX1_find 44 = .ok (.getfield 18, 3) := by decide +kernel
theorem dX1_find_47 : decode cX1_find 47 = .ok (.aload_n 1, 1) := by decide +kernel
theorem dX1_find_48 : decode cX1_find 48 = .ok (.iload_n 2, 1) := by decide +kernel
theorem dX1_find_49 : decode cX1_find 49 = .ok (.invokevirtual 66, 3) := by decide +kernel
theorem dX1_find_52 : decode cX1_find 52 = .ok (.invokevirtual 70, 3) := by decide +kernel
theorem dX1_find_55 : decode cX1_find 55 = .ok (.aload_n 0, 1) := by decide +kernel
theorem dX1_find_56 : decode cX1_find 56 = .ok (.getfield 12, 3) := by decide +kernel
theorem dX1_find_59 : decode cX1_find 59 = .ok (.aload_n 0, 1) := by decide +kernel
theorem dX1_find_60 : decode cX1_find 60 = .ok (.getfield 21, 3) := by decide +kernel
theorem dX1_find_63 : decode cX1_find 63 = .ok (.invokestatic 74, 3) := by decide +kernel
theorem dX1_find_66 : decode cX1_find 66 = .ok (.aload_n 0, 1) := by decide +kernel
theorem dX1_find_67 : decode cX1_find 67 = .ok (.aload_n 0, 1) := by decide +kernel
theorem dX1_find_68 : decode cX1_find 68 = .ok (.getfield 36, 3) := by decide +kernel
theorem dX1_find_71 : decode cX1_find 71 = .ok (.aload_n 0, 1) := by decide +kernel
theorem dX1_find_72 : decode cX1_find 72 = .ok (.getfield 27, 3) := by decide +kernel
theorem dX1_find_75 : decode cX1_find 75 = .ok (.invokevirtual 78, 3) := by decide +kernel
theorem dX1_find_78 : decode cX1_find 78 = .ok (.aload_n 0, 1) := by decide +kernel
theorem dX1_find_79 : decode cX1_find 79 = .ok (.aload_n 0, 1) := by decide +kernel
theorem dX1_find_80 : decode cX1_find 80 = .ok (.getfield 21, 3) := by decide +kernel
theorem dX1_find_83 : decode cX1_find 83 = .ok (.aload_n 0, 1) := by decide +kernel
theorem dX1_find_84 : decode cX1_find 84 = .ok (.getfield 30, 3) := by decide +kernel
theorem dX1_find_87 : decode cX1_find 87 = .ok (.invokevirtual 78, 3) := by decide +kernel
theorem dX1_find_90 : decode cX1_find 90 = .ok (.aload_n 0, 1) := by decide +kernel
theorem dX1_find_91 : decode cX1_find 91 = .ok (.getfield 33, 3) := by decide +kernel
theorem dX1_find_94 : decode cX1_find 94 = .ok (.aload_n 1, 1) := by decide +kernel
theorem dX1_find_95 : decode cX1_find 95 = .ok (.aload_n 0, 1) := by decide +kernel
theorem dX1_find_96 : decode cX1_find 96 = .ok (.getfield 21, 3) := by decide +kernel
theorem dX1_find_99 : decode cX1_find 99 = .ok (.iload_n 2, 1) := by decide +kernel
theorem dX1_find_100 : decode cX1_find 100 = .ok (.invokevirtual 81, 3) := by decide +kernel
theorem dX1_find_103 : decode cX1_find 103 = .ok (.invokevirtual 84, 3) := by decide +kernel
theorem dX1_find_106 : decode cX1_find 106 = .ok (.invokevirtual 70, 3) := by decide +kernel
theorem dX1_find_109 : decode cX1_find 109 = .ok (.return_, 1) := by decide +kernel
set_option maxRecDepth 20000 in
theorem ggX1_clear_X1_ofKind : GoodIn wsX1_clear wsX1_ofKind := goodIn_r _ [6, 7, 8, 9, 10, 11, 12, 13, 20, 21, 22, 23, 24, 25, 26, 27, 28, 29] (by decide +kernel) (by decide +kernel)
set_option maxRecDepth 20000 in
theorem gX1_clear_X1_ofKind : GoodIn wsX1_clear (wsV RX1 87 RX1 yX1_ofKind wsX1_ofKind) := goodIn_app (goodIn_of _ (by decide +kernel)) ggX1_clear_X1_ofKind
set_option maxRecDepth 20000 in
theorem ggX1_clear_X2_clear : GoodIn wsX1_clear wsX2_clear := goodIn_r _ [18, 19, 30, 31] (by decide +kernel) (by decide +kernel)
set_option maxRecDepth 20000 in
theorem gX1_clear_X2_clear : GoodIn wsX1_clear (wsV RX1 91 RX2 yX2_clear wsX2_clear) := goodIn_app (goodIn_of _ (by decide +kernel)) ggX1_clear_X2_clear
theorem dX1_clear_0 : decode cX1_clear 0 = .ok (.iconst 0, 1) := by decide +kernel
theorem dX1_clear_1 : decode cX1_clear 1 = .ok (.istore_n 1, 1) := by decide +kernel
theorem dX1_clear_2 : decode cX1_clear 2 = .ok (.iload_n 1, 1) := by decide +kernel
theorem dX1_clear_3 : decode cX1_clear 3 = .ok (.bipush 7, 2) := by decide +kernel
theorem dX1_clear_5 : decode cX1_clear 5 = .ok (.if_icmp .ge 17, 3) := by decide +kernel
theorem dX1_clear_8 : decode cX1_clear 8 = .ok (.aload_n 0, 1) := by decide +kernel
theorem dX1_clear_9 : decode cX1_clear 9 = .ok (.iload_n 1, 1) := by decide +kernel
theorem dX1_clear_10 : decode cX1_clear 10 = .ok (.invokevirtual 87, 3) := by decide +kernel
theorem dX1_clear_13 : decode cX1_clear 13 = .ok (.invokevirtual 91, 3) := by decide +kernel
theorem dX1_clear_16 : decode cX1_clear 16 = .ok (.iinc 1 1, 3) := by decide +kernel
theorem dX1_clear_19 : decode cX1_clear 19 = .ok (.goto (-17), 3) := by decide +kernel
theorem dX1_clear_22 : decode cX1_clear 22 = .ok (.aload_n 0, 1) := by decide +kernel
theorem dX1_clear_23 : decode cX1_clear 23 = .ok (.getfield 36, 3) := by decide +kernel
theorem dX1_clear_26 : decode cX1_clear 26 = .ok (.invokevirtual 91, 3) := by decide +kernel
theorem dX1_clear_29 : decode cX1_clear 29 = .ok (.return_, 1) := by decide +kernel
set_option maxRecDepth 20000 in
theorem ggX1_judgeAllWith_X0_present : GoodIn wsX1_judgeAllWith wsX0_present := goodIn_r _ [7, 8, 60, 61, 62, 63] (by decide +kernel) (by decide +kernel)
set_option maxRecDepth 20000 in
theorem gX1_judgeAllWith_X0_present : GoodIn wsX1_judgeAllWith (wsV RX1 46 RX0 yX0_present wsX0_present) := goodIn_app (goodIn_of _ (by decide +kernel)) ggX1_judgeAllWith_X0_present
set_option maxRecDepth 20000 in
theorem ggX1_judgeAllWith_X3_at : GoodIn wsX1_judgeAllWith wsX3_at := goodIn_r _ [11] (by decide +kernel) (by decide +kernel)
set_option maxRecDepth 20000 in
theorem gX1_judgeAllWith_X3_at_n92 : GoodIn wsX1_judgeAllWith (wsX3_at) := ggX1_judgeAllWith_X3_at
set_option maxRecDepth 20000 in
theorem ggX1_judgeAllWith_X0_targetsOf : GoodIn wsX1_judgeAllWith wsX0_targetsOf := goodIn_r _ [15, 16, 9, 10, 11, 60, 61, 62, 63] (by decide +kernel) (by decide +kernel)
set_option maxRecDepth 20000 in
theorem gX1_judgeAllWith_X0_targetsOf : GoodIn wsX1_judgeAllWith (wsV RX1 96 RX0 yX0_targetsOf wsX0_targetsOf) := goodIn_app (goodIn_of _ (by decide +kernel)) ggX1_judgeAllWith_X0_targetsOf
set_option maxRecDepth 20000 in
theorem ggX1_judgeAllWith_X3_store : GoodIn wsX1_judgeAllWith wsX3_store := goodIn_r _ [18] (by decide +kernel) (by decide +kernel)
set_option maxRecDepth 20000 in
theorem gX1_judgeAllWith_X3_store_n99 : GoodIn wsX1_judgeAllWith (wsX3_store) := ggX1_judgeAllWith_X3_store
set_option maxRecDepth 20000 in
theorem ggX1_judgeAllWith_X0_sourcesOf : GoodIn wsX1_judgeAllWith wsX0_sourcesOf := goodIn_r _ [22, 23, 9, 10, 11, 60, 61, 62, 63] (by decide +kernel) (by decide +kernel)
set_option maxRecDepth 20000 in
theorem gX1_judgeAllWith_X0_sourcesOf : GoodIn wsX1_judgeAllWith (wsV RX1 103 RX0 yX0_sourcesOf wsX0_sourcesOf) := goodIn_app (goodIn_of _ (by decide +kernel)) ggX1_judgeAllWith_X0_sourcesOf
set_option maxRecDepth 20000 in
theorem ggX1_judgeAllWith_X1_judge : GoodIn wsX1_judgeAllWith wsX1_judge := goodIn_r _ [28, 1, 2, 29, 30, 31, 3, 4, 5, 6, 7, 8, 9, 10, 11, 32, 33, 34, 35, 23, 36, 37, 38, 39, 40, 41, 42, 43, 44, 17, 18, 45, 46, 47, 48, 49, 50, 51, 52, 53, 54, 55, 56, 57, 58, 59, 60, 61, 62, 63, 64, 65] (by decide +kernel) (by decide +kernel)
set_option maxRecDepth 20000 in
theorem gX1_judgeAllWith_X1_judge : GoodIn wsX1_judgeAllWith (wsV RX1 55 RX1 yX1_judge wsX1_judge) := goodIn_app (goodIn_of _ (by decide +kernel)) ggX1_judgeAllWith_X1_judge
theorem dX1_judgeAllWith_0 : decode cX1_judgeAllWith 0 = .ok (.iconst 0, 1) := by decide +kernel
theorem dX1_judgeAllWith_1 : decode cX1_judgeAllWith 1 = .ok (.istore_n 3, 1) := by decide +kernel
theorem dX1_judgeAllWith_2 : decode cX1_judgeAllWith 2 = .ok (.iload_n 3, 1) := by decide +kernel
theorem dX1_judgeAllWith_3 : decode cX1_judgeAllWith 3 = .ok (.iconst 1, 1) := by decide +kernel
theorem dX1_judgeAllWith_4 : decode cX1_judgeAllWith 4 = .ok (.iload_n 2, 1) := by decide +kernel
theorem dX1_judgeAllWith_5 : decode cX1_judgeAllWith 5 = .ok (.ishl, 1) := by decide +kernel
theorem dX1_judgeAllWith_6 : decode cX1_judgeAllWith 6 = .ok (.if_icmp .ge 80, 3) := by decide +kernel
theorem dX1_judgeAllWith_9 : decode cX1_judgeAllWith 9 = .ok (.iload_n 3, 1) := by decide +kernel
theorem dX1_judgeAllWith_10 : decode cX1_judgeAllWith 10 = .ok (.aload_n 1, 1) := by decide +kernel
theorem dX1_judgeAllWith_11 : decode cX1_judgeAllWith 11 = .ok (.invokevirtual 46, 3) := by decide +kernel
theorem dX1_judgeAllWith_14 : decode cX1_judgeAllWith 14 = .ok (.iconst (-1), 1) := by decide +kernel
theorem dX1_judgeAllWith_15 : decode cX1_judgeAllWith 15 = .ok (.ixor, 1) := by decide +kernel
theorem dX1_judgeAllWith_16 : decode cX1_judgeAllWith 16 = .ok (.iand, 1) := by decide +kernel
theorem dX1_judgeAllWith_17 : decode cX1_judgeAllWith 17 = .ok (.ifCond .ne 63, 3) := by decide +kernel
theorem dX1_judgeAllWith_20 : decode cX1_judgeAllWith 20 = .ok (.iload_n 3, 1) := by decide +kernel
theorem dX1_judgeAllWith_21 : decode cX1_judgeAllWith 21 = .ok (.iconst 1, 1) := by decide +kernel
theorem dX1_judgeAllWith_22 : decode cX1_judgeAllWith 22 = .ok (.iload_n 2, 1) := by decide +kernel
theorem dX1_judgeAllWith_23 : decode cX1_judgeAllWith 23 = .ok (.ishl, 1) := by decide +kernel
theorem dX1_judgeAllWith_24 : decode cX1_judgeAllWith 24 = .ok (.ior, 1) := by decide +kernel
theorem dX1_judgeAllWith_25 : decode cX1_judgeAllWith 25 = .ok (.istore 4, 2) := by decide +kernel
theorem dX1_judgeAllWith_27 : decode cX1_judgeAllWith 27 = .ok (.aload_n 0, 1) := by decide +kernel
theorem dX1_judgeAllWith_28 : decode cX1_judgeAllWith 28 = .ok (.getfield 39, 3) := by decide +kernel
theorem dX1_judgeAllWith_31 : decode cX1_judgeAllWith 31 = .ok (.iload 4, 2) := by decide +kernel
theorem dX1_judgeAllWith_33 : decode cX1_judgeAllWith 33 = .ok (.aload_n 0, 1) := by decide +kernel
theorem dX1_judgeAllWith_34 : decode cX1_judgeAllWith 34 = .ok (.getfield 39, 3) := by decide +kernel
theorem dX1_judgeAllWith_37 : decode cX1_judgeAllWith 37 = .ok (.iload_n 3, 1) := by decide +kernel
theorem dX1_judgeAllWith_38 : decode cX1_judgeAllWith 38 = .ok (.invokestatic 92, 3) := by decide +kernel
theorem dX1_judgeAllWith_41 : decode cX1_judgeAllWith 41 = .ok (.aload_n 1, 1) := by decide +kernel
theorem dX1_judgeAllWith_42 : decode cX1_judgeAllWith 42 = .ok (.iload_n 2, 1) := by decide +kernel
theorem dX1_judgeAllWith_43 : decode cX1_judgeAllWith 43 = .ok (.invokevirtual 96, 3) := by decide +kernel
theorem dX1_judgeAllWith_46 : decode cX1_judgeAllWith 46 = .ok (.ior, 1) := by decide +kernel
theorem dX1_judgeAllWith_47 : decode cX1_judgeAllWith 47 = .ok (.invokestatic 99, 3) := by decide +kernel
theorem dX1_judgeAllWith_50 : decode cX1_judgeAllWith 50 = .ok (.aload_n 0, 1) := by decide +kernel
theorem dX1_judgeAllWith_51 : decode cX1_judgeAllWith 51 = .ok (.getfield 43, 3) := by decide +kernel
theorem dX1_judgeAllWith_54 : decode cX1_judgeAllWith 54 = .ok (.iload 4, 2) := by decide +kernel
theorem dX1_judgeAllWith_56 : decode cX1_judgeAllWith 56 = .ok (.aload_n 0, 1) := by decide +kernel
theorem dX1_judgeAllWith_57 : decode cX1_judgeAllWith 57 = .ok (.getfield 43, 3) := by decide +kernel
theorem dX1_judgeAllWith_60 : decode cX1_judgeAllWith 60 = .ok (.iload_n 3, 1) := by decide +kernel
theorem dX1_judgeAllWith_61 : decode cX1_judgeAllWith 61 = .ok (.invokestatic 92, 3) := by decide +kernel
theorem dX1_judgeAllWith_64 : decode cX1_judgeAllWith 64 = .ok (.aload_n 1, 1) := by decide +kernel
theorem dX1_judgeAllWith_65 : decode cX1_judgeAllWith 65 = .ok (.iload_n 2, 1) := by decide +kernel
theorem dX1_judgeAllWith_66 : decode cX1_judgeAllWith 66 = .ok (.invokevirtual 103, 3) := by decide +kernel
theorem dX1_judgeAllWith_69 : decode cX1_judgeAllWith 69 = .ok (.ior, 1) := by decide +kernel
theorem dX1_judgeAllWith_70 : decode cX1_judgeAllWith 70 = .ok (.invokestatic 99, 3) := by decide +kernel
theorem dX1_judgeAllWith_73 : decode cX1_judgeAllWith 73 = .ok (.aload_n 0, 1) := by decide +kernel
theorem dX1_judgeAllWith_74 : decode cX1_judgeAllWith 74 = .ok (.aload_n 1, 1) := by decide +kernel
theorem dX1_judgeAllWith_75 : decode cX1_judgeAllWith 75 = .ok (.iload 4, 2) := by decide +kernel
theorem dX1_judgeAllWith_77 : decode cX1_judgeAllWith 77 = .ok (.invokevirtual 55, 3) := by decide +kernel
theorem dX1_judgeAllWith_80 : decode cX1_judgeAllWith 80 = .ok (.iinc 3 1, 3) := by decide +kernel
theorem dX1_judgeAllWith_83 : decode cX1_judgeAllWith 83 = .ok (.goto (-81), 3) := by decide +kernel
theorem dX1_judgeAllWith_86 : decode cX1_judgeAllWith 86 = .ok (.return_, 1) := by decide +kernel
set_option maxRecDepth 20000 in
theorem ggX1_judge_X0_present : GoodIn wsX1_judge wsX0_present := goodIn_r _ [10, 11, 46, 47, 48, 49] (by decide +kernel) (by decide +kernel)
set_option maxRecDepth 20000 in
theorem gX1_judge_X0_present : GoodIn wsX1_judge (wsV RX1 46 RX0 yX0_present wsX0_present) := goodIn_app (goodIn_of _ (by decide +kernel)) ggX1_judge_X0_present
set_option maxRecDepth 20000 in
theorem ggX1_judge_X3_at : GoodIn wsX1_judge wsX3_at := goodIn_r _ [14] (by decide +kernel) (by decide +kernel)
set_option maxRecDepth 20000 in
theorem gX1_judge_X3_at_n92 : GoodIn wsX1_judge (wsX3_at) := ggX1_judge_X3_at
set_option maxRecDepth 20000 in
theorem ggX1_judge_X0_safeIfHit : GoodIn wsX1_judge wsX0_safeIfHit := goodIn_r _ [18, 19, 20, 13, 21, 12, 14, 46, 47, 48, 49] (by decide +kernel) (by decide +kernel)
set_option maxRecDepth 20000 in
theorem gX1_judge_X0_safeIfHit : GoodIn wsX1_judge (wsV RX1 106 RX0 yX0_safeIfHit wsX0_safeIfHit) := goodIn_app (goodIn_of _ (by decide +kernel)) ggX1_judge_X0_safeIfHit
set_option maxRecDepth 20000 in
theorem ggX1_judge_X2_add : GoodIn wsX1_judge wsX2_add := goodIn_r _ [26, 27, 28, 29, 13, 30, 50, 51] (by decide +kernel) (by decide +kernel)
set_option maxRecDepth 20000 in
theorem gX1_judge_X2_add : GoodIn wsX1_judge (wsV RX1 70 RX2 yX2_add wsX2_add) := goodIn_app (goodIn_of _ (by decide +kernel)) ggX1_judge_X2_add
set_option maxRecDepth 20000 in
theorem ggX1_judge_X0_selfAttackers : GoodIn wsX1_judge wsX0_selfAttackers := goodIn_r _ [34, 35, 46, 47, 48, 49] (by decide +kernel) (by decide +kernel)
set_option maxRecDepth 20000 in
theorem gX1_judge_X0_selfAttackers : GoodIn wsX1_judge (wsV RX1 110 RX0 yX0_selfAttackers wsX0_selfAttackers) := goodIn_app (goodIn_of _ (by decide +kernel)) ggX1_judge_X0_selfAttackers
theorem dX1_judge_0 : decode cX1_judge 0 = .ok (.aload_n 1, 1) := by decide +kernel
theorem dX1_judge_1 : decode cX1_judge 1 = .ok (.invokevirtual 46, 3) := by decide +kernel
theorem dX1_judge_4 : decode cX1_judge 4 = .ok (.istore_n 3, 1) := by decide +kernel
theorem dX1_judge_5 : decode cX1_judge 5 = .ok (.aload_n 0, 1) := by decide +kernel
theorem dX1_judge_6 : decode cX1_judge 6 = .ok (.getfield 39, 3) := by decide +kernel
theorem dX1_judge_9 : decode cX1_judge 9 = .ok (.iload_n 2, 1) := by decide +kernel
theorem dX1_judge_10 : decode cX1_judge 10 = .ok (.invokestatic 92, 3) := by decide +kernel
theorem dX1_judge_13 : decode cX1_judge 13 = .ok (.istore 4, 2) := by decide +kernel
theorem dX1_judge_15 : decode cX1_judge 15 = .ok (.aload_n 0, 1) := by decide +kernel
theorem dX1_judge_16 : decode cX1_judge 16 = .ok (.getfield 43, 3) := by decide +kernel
theorem dX1_judge_19 : decode cX1_judge 19 = .ok (.iload_n 2, 1) := by decide +kernel
theorem dX1_judge_20 : decode cX1_judge 20 = .ok (.invokestatic 92, 3) := by decide +kernel
theorem dX1_judge_23 : decode cX1_judge 23 = .ok (.istore 5, 2) := by decide +kernel
theorem dX1_judge_25 : decode cX1_judge 25 = .ok (.iload_n 2, 1) := by decide +kernel
theorem dX1_judge_26 : decode cX1_judge 26 = .ok (.iload 4, 2) := by decide +kernel
theorem dX1_judge_28 : decode cX1_judge 28 = .ok (.iand, 1) := by decide +kernel
theorem dX1_judge_29 : decode cX1_judge 29 = .ok (.ifCond .eq 4, 3) := by decide +kernel
theorem dX1_judge_32 : decode cX1_judge 32 = .ok (.return_, 1) := by decide +kernel
theorem dX1_judge_33 : decode cX1_judge 33 = .ok (.iload 5, 2) := by decide +kernel
theorem dX1_judge_35 : decode cX1_judge 35 = .ok (.iload 4, 2) := by decide +kernel
theorem dX1_judge_37 : decode cX1_judge 37 = .ok (.iconst (-1), 1) := by decide +kernel
theorem dX1_judge_38 : decode cX1_judge 38 = .ok (.ixor, 1) := by decide +kernel
theorem dX1_judge_39 : decode cX1_judge 39 = .ok (.iand, 1) := by decide +kernel
theorem dX1_judge_40 : decode cX1_judge 40 = .ok (.ifCond .ne 22, 3) := by decide +kernel
theorem dX1_judge_43 : decode cX1_judge 43 = .ok (.aload_n 1, 1) := by decide +kernel
theorem dX1_judge_44 : decode cX1_judge 44 = .ok (.iload 4, 2) := by decide +kernel
theorem dX1_judge_46 : decode cX1_judge 46 = .ok (.iload_n 3, 1) := by decide +kernel
theorem dX1_judge_47 : decode cX1_judge 47 = .ok (.invokevirtual 106, 3) := by decide +kernel
theorem dX1_judge_50 : decode cX1_judge 50 = .ok (.iload_n 2, 1) := by decide +kernel
theorem dX1_judge_51 : decode cX1_judge 51 = .ok (.if_icmp .ne 11, 3) := by decide +kernel
theorem dX1_judge_54 : decode cX1_judge 54 = .ok (.aload_n 0, 1) := by decide +kernel
theorem dX1_judge_55 : decode cX1_judge 55 = .ok (.getfield 12, 3) := by decide +kernel
theorem dX1_judge_58 : decode cX1_judge 58 = .ok (.iload_n 2, 1) := by decide +kernel
theorem dX1_judge_59 : decode cX1_judge 59 = .ok (.invokevirtual 70, 3) := by decide +kernel
theorem dX1_judge_62 : decode cX1_judge 62 = .ok (.iload_n 2, 1) := by decide +kernel
theorem dX1_judge_63 : decode cX1_judge 63 = .ok (.iload 4, 2) := by decide +kernel
theorem dX1_judge_65 : decode cX1_judge 65 = .ok (.ior, 1) := by decide +kernel
theorem dX1_judge_66 : decode cX1_judge 66 = .ok (.iload_n 3, 1) := by decide +kernel
theorem dX1_judge_67 : decode cX1_judge 67 = .ok (.if_icmp .ne 11, 3) := by decide +kernel
theorem dX1_judge_70 : decode cX1_judge 70 = .ok (.aload_n 0, 1) := by decide +kernel
theorem dX1_judge_71 : decode cX1_judge 71 = .ok (.getfield 24, 3) := by decide +kernel
theorem dX1_judge_74 : decode cX1_judge 74 = .ok (.iload_n 2, 1) := by decide +kernel
theorem dX1_judge_75 : decode cX1_judge 75 = .ok (.invokevirtual 70, 3) := by decide +kernel
theorem dX1_judge_78 : decode cX1_judge 78 = .ok (.iload_n 2, 1) := by decide +kernel
theorem dX1_judge_79 : decode cX1_judge 79 = .ok (.iload 4, 2) := by decide +kernel
theorem dX1_judge_81 : decode cX1_judge 81 = .ok (.ior, 1) := by decide +kernel
theorem dX1_judge_82 : decode cX1_judge 82 = .ok (.iload 5, 2) := by decide +kernel
theorem dX1_judge_84 : decode cX1_judge 84 = .ok (.ior, 1) := by decide +kernel
theorem dX1_judge_85 : decode cX1_judge 85 = .ok (.aload_n 1, 1) := by decide +kernel
theorem dX1_judge_86 : decode cX1_judge 86 = .ok (.invokevirtual 110, 3) := by decide +kernel
theorem dX1_judge_89 : decode cX1_judge 89 = .ok (.ior, 1) := by decide +kernel
theorem dX1_judge_90 : decode cX1_judge 90 = .ok (.iload_n 3, 1) := by decide +kernel
theorem dX1_judge_91 : decode cX1_judge 91 = .ok (.if_icmp .ne 11, 3) := by decide +kernel
theorem dX1_judge_94 : decode cX1_judge 94 = .ok (.aload_n 0, 1) := by decide +kernel
theorem dX1_judge_95 : decode cX1_judge 95 = .ok (.getfield 36, 3) := by decide +kernel
theorem dX1_judge_98 : decode cX1_judge 98 = .ok (.iload_n 2, 1) := by decide +kernel
theorem dX1_judge_99 : decode cX1_judge 99 = .ok (.invokevirtual 70, 3) := by decide +kernel
theorem dX1_judge_102 : decode cX1_judge 102 = .ok (.return_, 1) := by decide +kernel
set_option maxRecDepth 20000 in
theorem ggX1_keepLargest_X2_size : GoodIn wsX1_keepLargest wsX2_size := goodIn_r _ [5, 6, 21, 22] (by decide +kernel) (by decide +kernel)
set_option maxRecDepth 20000 in
theorem gX1_keepLargest_X2_size : GoodIn wsX1_keepLargest (wsV RX1 113 RX2 yX2_size wsX2_size) := goodIn_app (goodIn_of _ (by decide +kernel)) ggX1_keepLargest_X2_size
set_option maxRecDepth 20000 in
theorem ggX1_keepLargest_X2_get : GoodIn wsX1_keepLargest wsX2_get := goodIn_r _ [10, 11, 12, 13, 14, 21, 22] (by decide +kernel) (by decide +kernel)
set_option maxRecDepth 20000 in
theorem gX1_keepLargest_X2_get : GoodIn wsX1_keepLargest (wsV RX1 116 RX2 yX2_get wsX2_get) := goodIn_app (goodIn_of _ (by decide +kernel)) ggX1_keepLargest_X2_get
set_option maxRecDepth 20000 in
theorem ggX1_keepLargest_X2_add : GoodIn wsX1_keepLargest wsX2_add := goodIn_r _ [18, 6, 11, 19, 13, 20, 21, 22] (by decide +kernel) (by decide +kernel)
set_option maxRecDepth 20000 in
theorem gX1_keepLargest_X2_add : GoodIn wsX1_keepLargest (wsV RX1 70 RX2 yX2_add wsX2_add) := goodIn_app (goodIn_of _ (by decide +kernel)) ggX1_keepLargest_X2_add
theorem dX1_keepLargest_0 : decode cX1_keepLargest 0 = .ok (.iconst 0, 1) := by decide +kernel
theorem dX1_keepLargest_1 : decode cX1_keepLargest 1 = .ok (.istore_n 2, 1) := by decide +kernel
theorem dX1_keepLargest_2 : decode cX1_keepLargest 2 = .ok (.iload_n 2, 1) := by decide +kernel
theorem dX1_keepLargest_3 : decode cX1_keepLargest 3 = .ok (.aload_n 0, 1) := by decide +kernel
theorem dX1_keepLargest_4 : decode cX1_keepLargest 4 = .ok (.invokevirtual 113, 3) := by decide +kernel
theorem dX1_keepLargest_7 : decode cX1_keepLargest 7 = .ok (.if_icmp .ge 73, 3) := by decide +kernel
theorem dX1_keepLargest_10 : decode cX1_keepLargest 10 = .ok (.aload_n 0, 1) := by decide +kernel
theorem dX1_keepLargest_11 : decode cX1_keepLargest 11 = .ok (.iload_n 2, 1) := by decide +kernel
theorem dX1_keepLargest_12 : decode cX1_keepLargest 12 = .ok (.invokevirtual 116, 3) := by decide +kernel
theorem dX1_keepLargest_15 : decode cX1_keepLargest 15 = .ok (.istore_n 3, 1) := by decide +kernel
theorem dX1_keepLargest_16 : decode cX1_keepLargest 16 = .ok (.iconst 1, 1) := by decide +kernel
theorem dX1_keepLargest_17 : decode cX1_keepLargest 17 = .ok (.istore 4, 2) := by decide +kernel
theorem dX1_keepLargest_19 : decode cX1_keepLargest 19 = .ok (.iload_n 2, 1) := by decide +kernel
theorem dX1_keepLargest_20 : decode cX1_keepLargest 20 = .ok (.iconst 1, 1) := by decide +kernel
theorem dX1_keepLargest_21 : decode cX1_keepLargest 21 = .ok (.iadd, 1) := by decide +kernel
theorem dX1_keepLargest_22 : decode cX1_keepLargest 22 = .ok (.istore 5, 2) := by decide +kernel
theorem dX1_keepLargest_24 : decode cX1_keepLargest 24 = .ok (.iload 5, 2) := by decide +kernel
theorem dX1_keepLargest_26 : decode cX1_keepLargest 26 = .ok (.aload_n 0, 1) := by decide +kernel
theorem dX1_keepLargest_27 : decode cX1_keepLargest 27 = .ok (.invokevirtual 113, 3) := by decide +kernel
theorem dX1_keepLargest_30 : decode cX1_keepLargest 30 = .ok (.if_icmp .ge 34, 3) := by decide +kernel
theorem dX1_keepLargest_33 : decode cX1_keepLargest 33 = .ok (.iload 4, 2) := by decide +kernel
theorem dX1_keepLargest_35 : decode cX1_keepLargest 35 = .ok (.ifCond .eq 29, 3) := by decide +kernel
theorem dX1_keepLargest_38 : decode cX1_keepLargest 38 = .ok (.iload_n 3, 1) := by decide +kernel
theorem dX1_keepLargest_39 : decode cX1_keepLargest 39 = .ok (.aload_n 0, 1) := by decide +kernel
theorem dX1_keepLargest_40 : decode cX1_keepLargest 40 = .ok (.iload 5, 2) := by decide +kernel
theorem dX1_keepLargest_42 : decode cX1_keepLargest 42 = .ok (.invokevirtual 116, 3) := by decide +kernel
theorem dX1_keepLargest_45 : decode cX1_keepLargest 45 = .ok (.iconst (-1), 1) := by decide +kernel
theorem dX1_keepLargest_46 : decode cX1_keepLargest 46 = .ok (.ixor, 1) := by decide +kernel
theorem dX1_keepLargest_47 : decode cX1_keepLargest 47 = .ok (.iand, 1) := by decide +kernel
theorem dX1_keepLargest_48 : decode cX1_keepLargest 48 = .ok (.ifCond .eq 7, 3) := by decide +kernel
theorem dX1_keepLargest_51 : decode cX1_keepLargest 51 = .ok (.iconst 1, 1) := by decide +kernel
theorem dX1_keepLargest_52 : decode cX1_keepLargest 52 = .ok (.goto 4, 3) := by decide +kernel
theorem dX1_keepLargest_55 : decode cX1_keepLargest 55 = .ok (.iconst 0, 1) := by decide +kernel
theorem dX1_keepLargest_56 : decode cX1_keepLargest 56 = .ok (.istore 4, 2) := by decide +kernel
theorem dX1_keepLargest_58 : decode cX1_keepLargest 58 = .ok (.iinc 5 1, 3) := by decide +kernel
theorem dX1_keepLargest_61 : decode cX1_keepLargest 61 = .ok (.goto (-37), 3) := by decide +kernel
theorem dX1_keepLargest_64 : decode cX1_keepLargest 64 = .ok (.iload 4, 2) := by decide +kernel
theorem dX1_keepLargest_66 : decode cX1_keepLargest 66 = .ok (.ifCond .eq 8, 3) := by decide +kernel
theorem dX1_keepLargest_69 : decode cX1_keepLargest 69 = .ok (.aload_n 1, 1) := by decide +kernel
theorem dX1_keepLargest_70 : decode cX1_keepLargest 70 = .ok (.iload_n 3, 1) := by decide +kernel
theorem dX1_keepLargest_71 : decode cX1_keepLargest 71 = .ok (.invokevirtual 70, 3) := by decide +kernel
theorem dX1_keepLargest_74 : decode cX1_keepLargest 74 = .ok (.iinc 2 1, 3) := by decide +kernel
theorem dX1_keepLargest_77 : decode cX1_keepLargest 77 = .ok (.goto (-75), 3) := by decide +kernel
theorem dX1_keepLargest_80 : decode cX1_keepLargest 80 = .ok (.return_, 1) := by decide +kernel
set_option maxRecDepth 20000 in
theorem ggX1_keepWidest_X2_size : GoodIn wsX1_keepWidest wsX2_size := goodIn_r _ [5, 6, 30, 31] (by decide +kernel) (by decide +kernel)
set_option maxRecDepth 20000 in
theorem gX1_keepWidest_X2_size : GoodIn wsX1_keepWidest (wsV RX1 113 RX2 yX2_size wsX2_size) := goodIn_app (goodIn_of _ (by decide +kernel)) ggX1_keepWidest_X2_size
set_option maxRecDepth 20000 in
theorem ggX1_keepWidest_X2_get : GoodIn wsX1_keepWidest wsX2_get := goodIn_r _ [10, 11, 12, 13, 14, 30, 31] (by decide +kernel) (by decide +kernel)
set_option maxRecDepth 20000 in
theorem gX1_keepWidest_X2_get : GoodIn wsX1_keepWidest (wsV RX1 116 RX2 yX2_get wsX2_get) := goodIn_app (goodIn_of _ (by decide +kernel)) ggX1_keepWidest_X2_get
set_option maxRecDepth 20000 in
theorem ggX1_keepWidest_X1_covered : GoodIn wsX1_keepWidest wsX1_covered := goodIn_r _ [19, 20, 12, 13, 14, 32, 33, 34, 35, 36, 37, 38, 39, 40, 41] (by decide +kernel) (by decide +kernel)
set_option maxRecDepth 20000 in
theorem gX1_keepWidest_X1_covered : GoodIn wsX1_keepWidest (wsV RX1 119 RX1 yX1_covered wsX1_covered) := goodIn_app (goodIn_of _ (by decide +kernel)) ggX1_keepWidest_X1_covered
set_option maxRecDepth 20000 in
theorem ggX1_keepWidest_X1_isProperPart : GoodIn wsX1_keepWidest wsX1_isProperPart := goodIn_r _ [23] (by decide +kernel) (by decide +kernel)
set_option maxRecDepth 20000 in
theorem gX1_keepWidest_X1_isProperPart : GoodIn wsX1_keepWidest (va_wsS RX1 122 yX1_isProperPart wsX1_isProperPart) := goodIn_app (goodIn_of _ (by decide +kernel)) ggX1_keepWidest_X1_isProperPart
set_option maxRecDepth 20000 in
theorem ggX1_keepWidest_X2_add : GoodIn wsX1_keepWidest wsX2_add := goodIn_r _ [27, 6, 11, 28, 13, 29, 30, 31] (by decide +kernel) (by decide +kernel)
set_option maxRecDepth 20000 in
theorem gX1_keepWidest_X2_add : GoodIn wsX1_keepWidest (wsV RX1 70 RX2 yX2_add wsX2_add) := goodIn_app (goodIn_of _ (by decide +kernel)) ggX1_keepWidest_X2_add
theorem dX1_keepWidest_0 : decode cX1_keepWidest 0 = .ok (.iconst 0, 1) := by decide +kernel
theorem dX1_keepWidest_1 : decode cX1_keepWidest 1 = .ok (.istore_n 3, 1) := by decide +kernel
theorem dX1_keepWidest_2 : decode cX1_keepWidest 2 = .ok (.iload_n 3, 1) := by decide +kernel
theorem dX1_keepWidest_3 : decode cX1_keepWidest 3 = .ok (.aload_n 1, 1) := by decide +kernel
theorem dX1_keepWidest_4 : decode cX1_keepWidest 4 = .ok (.invokevirtual 113, 3) := by decide +kernel
theorem dX1_keepWidest_7 : decode cX1_keepWidest 7 = .ok (.if_icmp .ge 82, 3) := by decide +kernel
theorem dX1_keepWidest_10 : decode cX1_keepWidest 10 = .ok (.aload_n 1, 1) := by decide +kernel
theorem dX1_keepWidest_11 : decode cX1_keepWidest 11 = .ok (.iload_n 3, 1) := by decide +kernel
theorem dX1_keepWidest_12 : decode cX1_keepWidest 12 = .ok (.invokevirtual 116, 3) := by decide +kernel
theorem dX1_keepWidest_15 : decode cX1_keepWidest 15 = .ok (.istore 4, 2) := by decide +kernel
theorem dX1_keepWidest_17 : decode cX1_keepWidest 17 = .ok (.iconst 1, 1) := by decide +kernel
theorem dX1_keepWidest_18 : decode cX1_keepWidest 18 = .ok (.istore 5, 2) := by decide +kernel
theorem dX1_keepWidest_20 : decode cX1_keepWidest 20 = .ok (.iconst 0, 1) := by decide +kernel
theorem dX1_keepWidest_21 : decode cX1_keepWidest 21 = .ok (.istore 6, 2) := by decide +kernel
theorem dX1_keepWidest_23 : decode cX1_keepWidest 23 = .ok (.iload 6, 2) := by decide +kernel
theorem dX1_keepWidest_25 : decode cX1_keepWidest 25 = .ok (.aload_n 1, 1) := by decide +kernel
theorem dX1_keepWidest_26 : decode cX1_keepWidest 26 = .ok (.invokevirtual 113, 3) := by decide +kernel
theorem dX1_keepWidest_29 : decode cX1_keepWidest 29 = .ok (.if_icmp .ge 43, 3) := by decide +kernel
theorem dX1_keepWidest_32 : decode cX1_keepWidest 32 = .ok (.iload 5, 2) := by decide +kernel
theorem dX1_keepWidest_34 : decode cX1_keepWidest 34 = .ok (.ifCond .eq 38, 3) := by decide +kernel
theorem dX1_keepWidest_37 : decode cX1_keepWidest 37 = .ok (.aload_n 0, 1) := by decide +kernel
theorem dX1_keepWidest_38 : decode cX1_keepWidest 38 = .ok (.iload 4, 2) := by decide +kernel
theorem dX1_keepWidest_40 : decode cX1_keepWidest 40 = .ok (.invokevirtual 119, 3) := by decide +kernel
theorem dX1_keepWidest_43 : decode cX1_keepWidest 43 = .ok (.aload_n 0, 1) := by decide +kernel
theorem dX1_keepWidest_44 : decode cX1_keepWidest 44 = .ok (.aload_n 1, 1) := by decide +kernel
theorem dX1_keepWidest_45 : decode cX1_keepWidest 45 = .ok (.iload 6, 2) := by decide +kernel
theorem dX1_keepWidest_47 : decode cX1_keepWidest 47 = .ok (.invokevirtual 116, 3) := by decide +kernel
theorem dX1_keepWidest_50 : decode cX1_keepWidest 50 = .ok (.invokevirtual 119, 3) := by decide +kernel
theorem dX1_keepWidest_53 : decode cX1_keepWidest 53 = .ok (.invokestatic 122, 3) := by decide +kernel
theorem dX1_keepWidest_56 : decode cX1_keepWidest 56 = .ok (.ifCond .ne 7, 3) := by decide +kernel
theorem dX1_keepWidest_59 : decode cX1_keepWidest 59 = .ok (.iconst 1, 1) := by decide +kernel
theorem dX1_keepWidest_60 : decode cX1_keepWidest 60 = .ok (.goto 4, 3) := by decide +kernel
theorem dX1_keepWidest_63 : decode cX1_keepWidest 63 = .ok (.iconst 0, 1) := by decide +kernel
theorem dX1_keepWidest_64 : decode cX1_keepWidest 64 = .ok (.istore 5, 2) := by decide +kernel
theorem dX1_keepWidest_66 : decode cX1_keepWidest 66 = .ok (.iinc 6 1, 3) := by decide +kernel
theorem dX1_keepWidest_69 : decode cX1_keepWidest 69 = .ok (.goto (-46), 3) := by decide +kernel
theorem dX1_keepWidest_72 : decode cX1_keepWidest 72 = .ok (.iload 5, 2) := by decide +kernel
theorem dX1_keepWidest_74 : decode cX1_keepWidest 74 = .ok (.ifCond .eq 9, 3) := by decide +kernel
theorem dX1_keepWidest_77 : decode cX1_keepWidest 77 = .ok (.aload_n 2, 1) := by decide +kernel
theorem dX1_keepWidest_78 : decode cX1_keepWidest 78 = .ok (.iload 4, 2) := by decide +kernel
theorem dX1_keepWidest_80 : decode cX1_keepWidest 80 = .ok (.invokevirtual 70, 3) := by decide +kernel
theorem dX1_keepWidest_83 : decode cX1_keepWidest 83 = .ok (.iinc 3 1, 3) := by decide +kernel
theorem dX1_keepWidest_86 : decode cX1_keepWidest 86 = .ok (.goto (-84), 3) := by decide +kernel
theorem dX1_keepWidest_89 : decode cX1_keepWidest 89 = .ok (.return_, 1) := by decide +kernel
set_option maxRecDepth 20000 in
theorem ggX1_covered_X3_at : GoodIn wsX1_covered wsX3_at := goodIn_r _ [4] (by decide +kernel) (by decide +kernel)
set_option maxRecDepth 20000 in
theorem gX1_covered_X3_at_n92 : GoodIn wsX1_covered (wsX3_at) := ggX1_covered_X3_at
theorem dX1_covered_0 : decode cX1_covered 0 = .ok (.iload_n 1, 1) := by decide +kernel
theorem dX1_covered_1 : decode cX1_covered 1 = .ok (.aload_n 0, 1) := by decide +kernel
theorem dX1_covered_2 : decode cX1_covered 2 = .ok (.getfield 39, 3) := by decide +kernel
theorem dX1_covered_5 : decode cX1_covered 5 = .ok (.iload_n 1, 1) := by decide +kernel
theorem dX1_covered_6 : decode cX1_covered 6 = .ok (.invokestatic 92, 3) := by decide +kernel
theorem dX1_covered_9 : decode cX1_covered 9 = .ok (.ior, 1) := by decide +kernel
theorem dX1_covered_10 : decode cX1_covered 10 = .ok (.ireturn, 1) := by decide +kernel
theorem dX1_isProperPart_0 : decode cX1_isProperPart 0 = .ok (.iload_n 0, 1) := by decide +kernel
theorem dX1_isProperPart_1 : decode cX1_isProperPart 1 = .ok (.iload_n 1, 1) := by decide +kernel
theorem dX1_isProperPart_2 : decode cX1_isProperPart 2 = .ok (.if_icmp .eq 15, 3) := by decide +kernel
theorem dX1_isProperPart_5 : decode cX1_isProperPart 5 = .ok (.iload_n 0, 1) := by decide +kernel
theorem dX1_isProperPart_6 : decode cX1_isProperPart 6 = .ok (.iload_n 1, 1) := by decide +kernel
theorem dX1_isProperPart_7 : decode cX1_isProperPart 7 = .ok (.iconst (-1), 1) := by decide +kernel
theorem dX1_isProperPart_8 : decode cX1_isProperPart 8 = .ok (.ixor, 1) := by decide +kernel
theorem dX1_isProperPart_9 : decode cX1_isProperPart 9 = .ok (.iand, 1) := by decide +kernel
theorem dX1_isProperPart_10 : decode cX1_isProperPart 10 = .ok (.ifCond .ne 7, 3) := by decide +kernel
theorem dX1_isProperPart_13 : decode cX1_isProperPart 13 = .ok (.iconst 1, 1) := by decide +kernel
theorem dX1_isProperPart_14 : decode cX1_isProperPart 14 = .ok (.goto 4, 3) := by decide +kernel
theorem dX1_isProperPart_17 : decode cX1_isProperPart 17 = .ok (.iconst 0, 1) := by decide +kernel
theorem dX1_isProperPart_18 : decode cX1_isProperPart 18 = .ok (.ireturn, 1) := by decide +kernel
theorem dX2_init_0 : decode cX2_init 0 = .ok (.aload_n 0, 1) := by decide +kernel
theorem dX2_init_1 : decode cX2_init 1 = .ok (.invokespecial 3, 3) := by decide +kernel
theorem dX2_init_4 : decode cX2_init 4 = .ok (.aload_n 0, 1) := by decide +kernel
theorem dX2_init_5 : decode cX2_init 5 = .ok (.sipush 4096, 3) := by decide +kernel
theorem dX2_init_8 : decode cX2_init 8 = .ok (.newarray .int, 2) := by decide +kernel
theorem dX2_init_10 : decode cX2_init 10 = .ok (.putfield 9, 3) := by decide +kernel
theorem dX2_init_13 : decode cX2_init 13 = .ok (.aload_n 0, 1) := by decide +kernel
theorem dX2_init_14 : decode cX2_init 14 = .ok (.iconst 0, 1) := by decide +kernel
theorem dX2_init_15 : decode cX2_init 15 = .ok (.putfield 15, 3) := by decide +kernel
theorem dX2_init_18 : decode cX2_init 18 = .ok (.return_, 1) := by decide +kernel
theorem dX2_clear_0 : decode cX2_clear 0 = .ok (.aload_n 0, 1) := by decide +kernel
theorem dX2_clear_1 : decode cX2_clear 1 = .ok (.iconst 0, 1) := by decide +kernel
theorem dX2_clear_2 : decode cX2_clear 2 = .ok (.putfield 15, 3) := by decide +kernel
theorem dX2_clear_5 : decode cX2_clear 5 = .ok (.return_, 1) := by decide +kernel
set_option maxRecDepth 20000 in
theorem ggX2_add_X3_store : GoodIn wsX2_add wsX3_store := goodIn_r _ [5] (by decide +kernel) (by decide +kernel)
set_option maxRecDepth 20000 in
theorem gX2_add_X3_store_n19 : GoodIn wsX2_add (wsX3_store) := ggX2_add_X3_store
theorem dX2_add_0 : decode cX2_add 0 = .ok (.aload_n 0, 1) := by decide +kernel
theorem dX2_add_1 : decode cX2_add 1 = .ok (.getfield 15, 3) := by decide +kernel
theorem dX2_add_4 : decode cX2_add 4 = .ok (.aload_n 0, 1) := by decide +kernel
theorem dX2_add_5 : decode cX2_add 5 = .ok (.getfield 9, 3) := by decide +kernel
theorem dX2_add_8 : decode cX2_add 8 = .ok (.arraylength, 1) := by decide +kernel
theorem dX2_add_9 : decode cX2_add 9 = .ok (.if_icmp .ge 25, 3) := by decide +kernel
theorem dX2_add_12 : decode cX2_add 12 = .ok (.aload_n 0, 1) := by decide +kernel
theorem dX2_add_13 : decode cX2_add 13 = .ok (.getfield 9, 3) := by decide +kernel
theorem dX2_add_16 : decode cX2_add 16 = .ok (.aload_n 0, 1) := by decide +kernel
theorem dX2_add_17 : decode cX2_add 17 = .ok (.getfield 15, 3) := by decide +kernel
theorem dX2_add_20 : decode cX2_add 20 = .ok (.iload_n 1, 1) := by decide +kernel
theorem dX2_add_21 : decode cX2_add 21 = .ok (.invokestatic 19, 3) := by decide +kernel
theorem dX2_add_24 : decode cX2_add 24 = .ok (.aload_n 0, 1) := by decide +kernel
theorem dX2_add_25 : decode cX2_add 25 = .ok (.dup, 1) := by decide +kernel
theorem dX2_add_26 : decode cX2_add 26 = .ok (.getfield 15, 3) := by decide +kernel
theorem dX2_add_29 : decode cX2_add 29 = .ok (.iconst 1, 1) := by decide +kernel
theorem dX2_add_30 : decode cX2_add 30 = .ok (.iadd, 1) := by decide +kernel
theorem dX2_add_31 : decode cX2_add 31 = .ok (.putfield 15, 3) := by decide +kernel
theorem dX2_add_34 : decode cX2_add 34 = .ok (.return_, 1) := by decide +kernel
theorem dX2_size_0 : decode cX2_size 0 = .ok (.aload_n 0, 1) := by decide +kernel
theorem dX2_size_1 : decode cX2_size 1 = .ok (.getfield 15, 3) := by decide +kernel
theorem dX2_size_4 : decode cX2_size 4 = .ok (.ireturn, 1) := by decide +kernel
set_option maxRecDepth 20000 in
theorem ggX2_get_X3_at : GoodIn wsX2_get wsX3_at := goodIn_r _ [4] (by decide +kernel) (by decide +kernel)
set_option maxRecDepth 20000 in
theorem gX2_get_X3_at_n23 : GoodIn wsX2_get (wsX3_at) := ggX2_get_X3_at
theorem dX2_get_0 : decode cX2_get 0 = .ok (.aload_n 0, 1) := by decide +kernel
theorem dX2_get_1 : decode cX2_get 1 = .ok (.getfield 9, 3) := by decide +kernel
theorem dX2_get_4 : decode cX2_get 4 = .ok (.iload_n 1, 1) := by decide +kernel
theorem dX2_get_5 : decode cX2_get 5 = .ok (.invokestatic 23, 3) := by decide +kernel
theorem dX2_get_8 : decode cX2_get 8 = .ok (.ireturn, 1) := by decide +kernel
set_option maxRecDepth 20000 in
theorem ggX2_union_X3_at : GoodIn wsX2_union wsX3_at := goodIn_r _ [5] (by decide +kernel) (by decide +kernel)
set_option maxRecDepth 20000 in
theorem gX2_union_X3_at_n23 : GoodIn wsX2_union (wsX3_at) := ggX2_union_X3_at
theorem dX2_union_0 : decode cX2_union 0 = .ok (.iconst 0, 1) := by decide +kernel
theorem dX2_union_1 : decode cX2_union 1 = .ok (.istore_n 1, 1) := by decide +kernel
theorem dX2_union_2 : decode cX2_union 2 = .ok (.iconst 0, 1) := by decide +kernel
theorem dX2_union_3 : decode cX2_union 3 = .ok (.istore_n 2, 1) := by decide +kernel
theorem dX2_union_4 : decode cX2_union 4 = .ok (.iload_n 2, 1) := by decide +kernel
theorem dX2_union_5 : decode cX2_union 5 = .ok (.aload_n 0, 1) := by decide +kernel
theorem dX2_union_6 : decode cX2_union 6 = .ok (.getfield 15, 3) := by decide +kernel
theorem dX2_union_9 : decode cX2_union 9 = .ok (.if_icmp .ge 20, 3) := by decide +kernel
theorem dX2_union_12 : decode cX2_union 12 = .ok (.iload_n 1, 1) := by decide +kernel
theorem dX2_union_13 : decode cX2_union 13 = .ok (.aload_n 0, 1) := by decide +kernel
theorem dX2_union_14 : decode cX2_union 14 = .ok (.getfield 9, 3) := by decide +kernel
theorem dX2_union_17 : decode cX2_union 17 = .ok (.iload_n 2, 1) := by decide +kernel
theorem dX2_union_18 : decode cX2_union 18 = .ok (.invokestatic 23, 3) := by decide +kernel
theorem dX2_union_21 : decode cX2_union 21 = .ok (.ior, 1) := by decide +kernel
theorem dX2_union_22 : decode cX2_union 22 = .ok (.istore_n 1, 1) := by decide +kernel
theorem dX2_union_23 : decode cX2_union 23 = .ok (.iinc 2 1, 3) := by decide +kernel
theorem dX2_union_26 : decode cX2_union 26 = .ok (.goto (-22), 3) := by decide +kernel
theorem dX2_union_29 : decode cX2_union 29 = .ok (.iload_n 1, 1) := by decide +kernel
theorem dX2_union_30 : decode cX2_union 30 = .ok (.ireturn, 1) := by decide +kernel
set_option maxRecDepth 20000 in
theorem ggX2_commonPart_X3_at : GoodIn wsX2_commonPart wsX3_at := goodIn_r _ [5] (by decide +kernel) (by decide +kernel)
set_option maxRecDepth 20000 in
theorem gX2_commonPart_X3_at_n23 : GoodIn wsX2_commonPart (wsX3_at) := ggX2_commonPart_X3_at
theorem dX2_commonPart_0 : decode cX2_commonPart 0 = .ok (.iload_n 1, 1) := by decide +kernel
theorem dX2_commonPart_1 : decode cX2_commonPart 1 = .ok (.istore_n 2, 1) := by decide +kernel
theorem dX2_commonPart_2 : decode cX2_commonPart 2 = .ok (.iconst 0, 1) := by decide +kernel
theorem dX2_commonPart_3 : decode cX2_commonPart 3 = .ok (.istore_n 3, 1) := by decide +kernel
theorem dX2_commonPart_4 : decode cX2_commonPart 4 = .ok (.iload_n 3, 1) := by decide +kernel
theorem dX2_commonPart_5 : decode cX2_commonPart 5 = .ok (.aload_n 0, 1) := by decide +kernel
theorem dX2_commonPart_6 : decode cX2_commonPart 6 = .ok (.getfield 15, 3) := by decide +kernel
theorem dX2_commonPart_9 : decode cX2_commonPart 9 = .ok (.if_icmp .ge 20, 3) := by decide +kernel
theorem dX2_commonPart_12 : decode cX2_commonPart 12 = .ok (.iload_n 2, 1) := by decide +kernel
theorem dX2_commonPart_13 : decode cX2_commonPart 13 = .ok (.aload_n 0, 1) := by decide +kernel
theorem dX2_commonPart_14 : decode cX2_commonPart 14 = .ok (.getfield 9, 3) := by decide +kernel
theorem dX2_commonPart_17 : decode cX2_commonPart 17 = .ok (.iload_n 3, 1) := by decide +kernel
theorem dX2_commonPart_18 : decode cX2_commonPart 18 = .ok (.invokestatic 23, 3) := by decide +kernel
theorem dX2_commonPart_21 : decode cX2_commonPart 21 = .ok (.iand, 1) := by decide +kernel
theorem dX2_commonPart_22 : decode cX2_commonPart 22 = .ok (.istore_n 2, 1) := by decide +kernel
theorem dX2_commonPart_23 : decode cX2_commonPart 23 = .ok (.iinc 3 1, 3) := by decide +kernel
theorem dX2_commonPart_26 : decode cX2_commonPart 26 = .ok (.goto (-22), 3) := by decide +kernel
theorem dX2_commonPart_29 : decode cX2_commonPart 29 = .ok (.iload_n 2, 1) := by decide +kernel
theorem dX2_commonPart_30 : decode cX2_commonPart 30 = .ok (.ireturn, 1) := by decide +kernel
set_option maxRecDepth 20000 in
theorem ggX3_init_X0_init : GoodIn wsX3_init wsX0_init := goodIn_r _ [22, 23, 2, 3, 4, 24, 25, 26, 27, 60, 61, 62, 63] (by decide +kernel) (by decide +kernel)
set_option maxRecDepth 20000 in
theorem gX3_init_X0_init : GoodIn wsX3_init (wsX0_init) := ggX3_init_X0_init
set_option maxRecDepth 20000 in
theorem ggX3_init_X1_init : GoodIn wsX3_init wsX1_init := goodIn_r _ [30, 31, 2, 3, 32, 33, 34, 35, 36, 37, 38, 39, 40, 41, 42, 4, 43, 44, 45, 46, 47, 48, 49, 50, 74, 75, 64, 65, 66, 67, 68, 69, 70, 71, 72, 73] (by decide +kernel) (by decide +kernel)
set_option maxRecDepth 20000 in
theorem gX3_init_X1_init : GoodIn wsX3_init (wsX1_init) := ggX3_init_X1_init
