theorem dX3_init_0 : decode cX3_init 0 = .ok (.aload_n 0, 1) := by decide +kernel
theorem dX3_init_1 : decode cX3_init 1 = .ok (.invokespecial 1, 3) := by decide +kernel
theorem dX3_init_4 : decode cX3_init 4 = .ok (.aload_n 0, 1) := by decide +kernel
theorem dX3_init_5 : decode cX3_init 5 = .ok (.bipush 12, 2) := by decide +kernel
theorem dX3_init_7 : decode cX3_init 7 = .ok (.newarray .int, 2) := by decide +kernel
theorem dX3_init_9 : decode cX3_init 9 = .ok (.putfield 9, 3) := by decide +kernel
theorem dX3_init_12 : decode cX3_init 12 = .ok (.aload_n 0, 1) := by decide +kernel
theorem dX3_init_13 : decode cX3_init 13 = .ok (.bipush 12, 2) := by decide +kernel
theorem dX3_init_15 : decode cX3_init 15 = .ok (.newarray .int, 2) := by decide +kernel
theorem dX3_init_17 : decode cX3_init 17 = .ok (.putfield 13, 3) := by decide +kernel
theorem dX3_init_20 : decode cX3_init 20 = .ok (.aload_n 0, 1) := by decide +kernel
theorem dX3_init_21 : decode cX3_init 21 = .ok (.new 16, 3) := by decide +kernel
theorem dX3_init_24 : decode cX3_init 24 = .ok (.dup, 1) := by decide +kernel
theorem dX3_init_25 : decode cX3_init 25 = .ok (.invokespecial 18, 3) := by decide +kernel
theorem dX3_init_28 : decode cX3_init 28 = .ok (.putfield 19, 3) := by decide +kernel
theorem dX3_init_31 : decode cX3_init 31 = .ok (.aload_n 0, 1) := by decide +kernel
theorem dX3_init_32 : decode cX3_init 32 = .ok (.new 16, 3) := by decide +kernel
theorem dX3_init_35 : decode cX3_init 35 = .ok (.dup, 1) := by decide +kernel
theorem dX3_init_36 : decode cX3_init 36 = .ok (.invokespecial 18, 3) := by decide +kernel
theorem dX3_init_39 : decode cX3_init 39 = .ok (.putfield 23, 3) := by decide +kernel
theorem dX3_init_42 : decode cX3_init 42 = .ok (.aload_n 0, 1) := by decide +kernel
theorem dX3_init_43 : decode cX3_init 43 = .ok (.new 26, 3) := by decide +kernel
theorem dX3_init_46 : decode cX3_init 46 = .ok (.dup, 1) := by decide +kernel
theorem dX3_init_47 : decode cX3_init 47 = .ok (.invokespecial 28, 3) := by decide +kernel
theorem dX3_init_50 : decode cX3_init 50 = .ok (.putfield 29, 3) := by decide +kernel
theorem dX3_init_53 : decode cX3_init 53 = .ok (.aload_n 0, 1) := by decide +kernel
theorem dX3_init_54 : decode cX3_init 54 = .ok (.iconst 0, 1) := by decide +kernel
theorem dX3_init_55 : decode cX3_init 55 = .ok (.putfield 33, 3) := by decide +kernel
theorem dX3_init_58 : decode cX3_init 58 = .ok (.aload_n 0, 1) := by decide +kernel
theorem dX3_init_59 : decode cX3_init 59 = .ok (.iconst 0, 1) := by decide +kernel
theorem dX3_init_60 : decode cX3_init 60 = .ok (.putfield 37, 3) := by decide +kernel
theorem dX3_init_63 : decode cX3_init 63 = .ok (.aload_n 0, 1) := by decide +kernel
theorem dX3_init_64 : decode cX3_init 64 = .ok (.bipush 9, 2) := by decide +kernel
theorem dX3_init_66 : decode cX3_init 66 = .ok (.putfield 40, 3) := by decide +kernel
theorem dX3_init_69 : decode cX3_init 69 = .ok (.aload_n 0, 1) := by decide +kernel
theorem dX3_init_70 : decode cX3_init 70 = .ok (.iconst 0, 1) := by decide +kernel
theorem dX3_init_71 : decode cX3_init 71 = .ok (.putfield 43, 3) := by decide +kernel
theorem dX3_init_74 : decode cX3_init 74 = .ok (.return_, 1) := by decide +kernel
set_option maxRecDepth 20000 in
theorem ggX3_addArgument_X3_checkWeight : GoodIn wsX3_addArgument wsX3_checkWeight := goodIn_ca (goodIn_r _ [9, 10, 11] (by decide +kernel) (by decide +kernel)) (goodIn_sub (fun _ h => List.mem_cons_of_mem _ (List.mem_append_right _ h)) (by decide +kernel))
set_option maxRecDepth 20000 in
theorem gX3_addArgument_X3_checkWeight : GoodIn wsX3_addArgument (va_wsS RX3 47 yX3_checkWeight wsX3_checkWeight) := goodIn_app (goodIn_of _ (by decide +kernel)) ggX3_addArgument_X3_checkWeight
set_option maxRecDepth 20000 in
theorem ggX3_addArgument_X3_store : GoodIn wsX3_addArgument wsX3_store := goodIn_r _ [14] (by decide +kernel) (by decide +kernel)
set_option maxRecDepth 20000 in
theorem gX3_addArgument_X3_store : GoodIn wsX3_addArgument (va_wsS RX3 58 yX3_store wsX3_store) := goodIn_app (goodIn_of _ (by decide +kernel)) ggX3_addArgument_X3_store
set_option maxRecDepth 20000 in
theorem ggX3_addArgument_X3_refresh : GoodIn wsX3_addArgument wsX3_refresh := goodIn_r _ [18, 19, 4, 20, 5, 21, 22, 23, 24, 25, 26, 27, 28, 29, 30, 31, 13, 8, 14, 32, 33, 34, 35, 36, 37, 38, 39, 40, 41, 42, 43, 44, 45, 46, 47, 48, 49, 50, 51, 52] (by decide +kernel) (by decide +kernel)
set_option maxRecDepth 20000 in
theorem gX3_addArgument_X3_refresh : GoodIn wsX3_addArgument (wsV RX3 62 RX3 yX3_refresh wsX3_refresh) := goodIn_app (goodIn_of _ (by decide +kernel)) ggX3_addArgument_X3_refresh
theorem dX3_addArgument_0 : decode cX3_addArgument 0 = .ok (.iload_n 1, 1) := by decide +kernel
theorem dX3_addArgument_1 : decode cX3_addArgument 1 = .ok (.invokestatic 47, 3) := by decide +kernel
theorem dX3_addArgument_4 : decode cX3_addArgument 4 = .ok (.aload_n 0, 1) := by decide +kernel
theorem dX3_addArgument_5 : decode cX3_addArgument 5 = .ok (.getfield 33, 3) := by decide +kernel
theorem dX3_addArgument_8 : decode cX3_addArgument 8 = .ok (.bipush 12, 2) := by decide +kernel
theorem dX3_addArgument_10 : decode cX3_addArgument 10 = .ok (.if_icmp .lt 13, 3) := by decide +kernel
theorem dX3_addArgument_13 : decode cX3_addArgument 13 = .ok (.new 51, 3) := by decide +kernel
theorem dX3_addArgument_16 : decode cX3_addArgument 16 = .ok (.dup, 1) := by decide +kernel
theorem dX3_addArgument_17 : decode cX3_addArgument 17 = .ok (.ldc 53, 2) := by decide +kernel
theorem dX3_addArgument_19 : decode cX3_addArgument 19 = .ok (.invokespecial 55, 3) := by decide +kernel
theorem dX3_addArgument_22 : decode cX3_addArgument 22 = .ok (.athrow, 1) := by decide +kernel
theorem dX3_addArgument_23 : decode cX3_addArgument 23 = .ok (.aload_n 0, 1) := by decide +kernel
theorem dX3_addArgument_24 : decode cX3_addArgument 24 = .ok (.getfield 33, 3) := by decide +kernel
theorem dX3_addArgument_27 : decode cX3_addArgument 27 = .ok (.istore_n 2, 1) := by decide +kernel
theorem dX3_addArgument_28 : decode cX3_addArgument 28 = .ok (.aload_n 0, 1) := by decide +kernel
theorem dX3_addArgument_29 : decode cX3_addArgument 29 = .ok (.dup, 1) := by decide +kernel
theorem dX3_addArgument_30 : decode cX3_addArgument 30 = .ok (.getfield 33, 3) := by decide +kernel
theorem dX3_addArgument_33 : decode cX3_addArgument 33 = .ok (.iconst 1, 1) := by decide +kernel
theorem dX3_addArgument_34 : decode cX3_addArgument 34 = .ok (.iadd, 1) := by decide +kernel
theorem dX3_addArgument_35 : decode cX3_addArgument 35 = .ok (.putfield 33, 3) := by decide +kernel
theorem dX3_addArgument_38 : decode cX3_addArgument 38 = .ok (.aload_n 0, 1) := by decide +kernel
theorem dX3_addArgument_39 : decode cX3_addArgument 39 = .ok (.getfield 9, 3) := by decide +kernel
theorem dX3_addArgument_42 : decode cX3_addArgument 42 = .ok (.iload_n 2, 1) := by decide +kernel
theorem dX3_addArgument_43 : decode cX3_addArgument 43 = .ok (.iload_n 1, 1) := by decide +kernel
theorem dX3_addArgument_44 : decode cX3_addArgument 44 = .ok (.invokestatic 58, 3) := by decide +kernel
theorem dX3_addArgument_47 : decode cX3_addArgument 47 = .ok (.aload_n 0, 1) := by decide +kernel
theorem dX3_addArgument_48 : decode cX3_addArgument 48 = .ok (.dup, 1) := by decide +kernel
theorem dX3_addArgument_49 : decode cX3_addArgument 49 = .ok (.getfield 37, 3) := by decide +kernel
theorem dX3_addArgument_52 : decode cX3_addArgument 52 = .ok (.iconst 1, 1) := by decide +kernel
theorem dX3_addArgument_53 : decode cX3_addArgument 53 = .ok (.iload_n 2, 1) := by decide +kernel
theorem dX3_addArgument_54 : decode cX3_addArgument 54 = .ok (.ishl, 1) := by decide +kernel
theorem dX3_addArgument_55 : decode cX3_addArgument 55 = .ok (.ior, 1) := by decide +kernel
theorem dX3_addArgument_56 : decode cX3_addArgument 56 = .ok (.putfield 37, 3) := by decide +kernel
theorem dX3_addArgument_59 : decode cX3_addArgument 59 = .ok (.aload_n 0, 1) := by decide +kernel
theorem dX3_addArgument_60 : decode cX3_addArgument 60 = .ok (.invokevirtual 62, 3) := by decide +kernel
theorem dX3_addArgument_63 : decode cX3_addArgument 63 = .ok (.iload_n 2, 1) := by decide +kernel
theorem dX3_addArgument_64 : decode cX3_addArgument 64 = .ok (.ireturn, 1) := by decide +kernel
set_option maxRecDepth 20000 in
theorem ggX3_put_X3_checkArgument : GoodIn wsX3_put wsX3_checkArgument := goodIn_ca (goodIn_r _ [6, 7, 8, 9, 42, 43, 44, 45, 46, 47, 48, 49, 50] (by decide +kernel) (by decide +kernel)) (goodIn_sub (fun _ h => List.mem_cons_of_mem _ (List.mem_append_right _ h)) (by decide +kernel))
set_option maxRecDepth 20000 in
theorem gX3_put_X3_checkArgument : GoodIn wsX3_put (wsV RX3 65 RX3 yX3_checkArgument wsX3_checkArgument) := goodIn_app (goodIn_of _ (by decide +kernel)) ggX3_put_X3_checkArgument
set_option maxRecDepth 20000 in
theorem ggX3_put_X3_has : GoodIn wsX3_put wsX3_has := goodIn_r _ [12] (by decide +kernel) (by decide +kernel)
set_option maxRecDepth 20000 in
theorem gX3_put_X3_has : GoodIn wsX3_put (va_wsS RX3 72 yX3_has wsX3_has) := goodIn_app (goodIn_of _ (by decide +kernel)) ggX3_put_X3_has
set_option maxRecDepth 20000 in
theorem ggX3_put_X3_with : GoodIn wsX3_put wsX3_with := goodIn_r _ [15] (by decide +kernel) (by decide +kernel)
set_option maxRecDepth 20000 in
theorem gX3_put_X3_with : GoodIn wsX3_put (va_wsS RX3 76 yX3_with wsX3_with) := goodIn_app (goodIn_of _ (by decide +kernel)) ggX3_put_X3_with
set_option maxRecDepth 20000 in
theorem ggX3_put_X3_refresh : GoodIn wsX3_put wsX3_refresh := goodIn_r _ [19, 20, 21, 22, 1, 23, 24, 25, 26, 27, 28, 29, 30, 31, 32, 33, 34, 5, 35, 36, 37, 11, 12, 38, 39, 40, 41, 42, 43, 44, 45, 46, 47, 48, 49, 50, 51, 52, 53, 54] (by decide +kernel) (by decide +kernel)
set_option maxRecDepth 20000 in
theorem gX3_put_X3_refresh : GoodIn wsX3_put (wsV RX3 62 RX3 yX3_refresh wsX3_refresh) := goodIn_app (goodIn_of _ (by decide +kernel)) ggX3_put_X3_refresh
theorem dX3_put_0 : decode cX3_put 0 = .ok (.aload_n 0, 1) := by decide +kernel
theorem dX3_put_1 : decode cX3_put 1 = .ok (.iload_n 1, 1) := by decide +kernel
theorem dX3_put_2 : decode cX3_put 2 = .ok (.invokevirtual 65, 3) := by decide +kernel
theorem dX3_put_5 : decode cX3_put 5 = .ok (.aload_n 0, 1) := by decide +kernel
theorem dX3_put_6 : decode cX3_put 6 = .ok (.getfield 37, 3) := by decide +kernel
theorem dX3_put_9 : decode cX3_put 9 = .ok (.iload_n 1, 1) := by decide +kernel
theorem dX3_put_10 : decode cX3_put 10 = .ok (.invokestatic 72, 3) := by decide +kernel
theorem dX3_put_13 : decode cX3_put 13 = .ok (.istore_n 3, 1) := by decide +kernel
theorem dX3_put_14 : decode cX3_put 14 = .ok (.aload_n 0, 1) := by decide +kernel
theorem dX3_put_15 : decode cX3_put 15 = .ok (.aload_n 0, 1) := by decide +kernel
theorem dX3_put_16 : decode cX3_put 16 = .ok (.getfield 37, 3) := by decide +kernel
theorem dX3_put_19 : decode cX3_put 19 = .ok (.iload_n 1, 1) := by decide +kernel
theorem dX3_put_20 : decode cX3_put 20 = .ok (.iload_n 2, 1) := by decide +kernel
theorem dX3_put_21 : decode cX3_put 21 = .ok (.invokestatic 76, 3) := by decide +kernel
theorem dX3_put_24 : decode cX3_put 24 = .ok (.putfield 37, 3) := by decide +kernel
theorem dX3_put_27 : decode cX3_put 27 = .ok (.aload_n 0, 1) := by decide +kernel
theorem dX3_put_28 : decode cX3_put 28 = .ok (.invokevirtual 62, 3) := by decide +kernel
theorem dX3_put_31 : decode cX3_put 31 = .ok (.iload_n 3, 1) := by decide +kernel
theorem dX3_put_32 : decode cX3_put 32 = .ok (.ireturn, 1) := by decide +kernel
set_option maxRecDepth 20000 in
theorem ggX3_attack_X3_checkArgument : GoodIn wsX3_attack wsX3_checkArgument := goodIn_ca (goodIn_r _ [6, 7, 8, 9, 44, 45, 46, 47, 48, 49, 50, 51, 52] (by decide +kernel) (by decide +kernel)) (goodIn_sub (fun _ h => List.mem_cons_of_mem _ (List.mem_append_right _ h)) (by decide +kernel))
set_option maxRecDepth 20000 in
theorem gX3_attack_X3_checkArgument : GoodIn wsX3_attack (wsV RX3 65 RX3 yX3_checkArgument wsX3_checkArgument) := goodIn_app (goodIn_of _ (by decide +kernel)) ggX3_attack_X3_checkArgument
set_option maxRecDepth 20000 in
theorem ggX3_attack_X3_at : GoodIn wsX3_attack wsX3_at := goodIn_r _ [12] (by decide +kernel) (by decide +kernel)
set_option maxRecDepth 20000 in
theorem gX3_attack_X3_at : GoodIn wsX3_attack (va_wsS RX3 68 yX3_at wsX3_at) := goodIn_app (goodIn_of _ (by decide +kernel)) ggX3_attack_X3_at
set_option maxRecDepth 20000 in
theorem ggX3_attack_X3_with : GoodIn wsX3_attack wsX3_with := goodIn_r _ [15] (by decide +kernel) (by decide +kernel)
set_option maxRecDepth 20000 in
theorem gX3_attack_X3_with : GoodIn wsX3_attack (va_wsS RX3 76 yX3_with wsX3_with) := goodIn_app (goodIn_of _ (by decide +kernel)) ggX3_attack_X3_with
set_option maxRecDepth 20000 in
theorem ggX3_attack_X3_store : GoodIn wsX3_attack wsX3_store := goodIn_r _ [18] (by decide +kernel) (by decide +kernel)
set_option maxRecDepth 20000 in
theorem gX3_attack_X3_store : GoodIn wsX3_attack (va_wsS RX3 58 yX3_store wsX3_store) := goodIn_app (goodIn_of _ (by decide +kernel)) ggX3_attack_X3_store
set_option maxRecDepth 20000 in
theorem ggX3_attack_X3_refresh : GoodIn wsX3_attack wsX3_refresh := goodIn_r _ [22, 23, 24, 1, 25, 26, 27, 28, 29, 30, 31, 32, 33, 34, 35, 36, 17, 5, 18, 11, 12, 37, 38, 39, 40, 41, 42, 44, 45, 46, 47, 48, 49, 50, 51, 52, 53, 54, 55, 56] (by decide +kernel) (by decide +kernel)
set_option maxRecDepth 20000 in
theorem gX3_attack_X3_refresh : GoodIn wsX3_attack (wsV RX3 62 RX3 yX3_refresh wsX3_refresh) := goodIn_app (goodIn_of _ (by decide +kernel)) ggX3_attack_X3_refresh
set_option maxRecDepth 20000 in
theorem ggX3_attack_X3_has : GoodIn wsX3_attack wsX3_has := goodIn_r _ [38] (by decide +kernel) (by decide +kernel)
set_option maxRecDepth 20000 in
theorem gX3_attack_X3_has : GoodIn wsX3_attack (va_wsS RX3 72 yX3_has wsX3_has) := goodIn_app (goodIn_of _ (by decide +kernel)) ggX3_attack_X3_has
theorem dX3_attack_0 : decode cX3_attack 0 = .ok (.aload_n 0, 1) := by decide +kernel
theorem dX3_attack_1 : decode cX3_attack 1 = .ok (.iload_n 1, 1) := by decide +kernel
theorem dX3_attack_2 : decode cX3_attack 2 = .ok (.invokevirtual 65, 3) := by decide +kernel
theorem dX3_attack_5 : decode cX3_attack 5 = .ok (.aload_n 0, 1) := by decide +kernel
theorem dX3_attack_6 : decode cX3_attack 6 = .ok (.iload_n 2, 1) := by decide +kernel
theorem dX3_attack_7 : decode cX3_attack 7 = .ok (.invokevirtual 65, 3) := by decide +kernel
theorem dX3_attack_10 : decode cX3_attack 10 = .ok (.aload_n 0, 1) := by decide +kernel
theorem dX3_attack_11 : decode cX3_attack 11 = .ok (.getfield 13, 3) := by decide +kernel
theorem dX3_attack_14 : decode cX3_attack 14 = .ok (.iload_n 1, 1) := by decide +kernel
theorem dX3_attack_15 : decode cX3_attack 15 = .ok (.invokestatic 68, 3) := by decide +kernel
theorem dX3_attack_18 : decode cX3_attack 18 = .ok (.istore 4, 2) := by decide +kernel
theorem dX3_attack_20 : decode cX3_attack 20 = .ok (.aload_n 0, 1) := by decide +kernel
theorem dX3_attack_21 : decode cX3_attack 21 = .ok (.getfield 13, 3) := by decide +kernel
theorem dX3_attack_24 : decode cX3_attack 24 = .ok (.iload_n 1, 1) := by decide +kernel
theorem dX3_attack_25 : decode cX3_attack 25 = .ok (.iload 4, 2) := by decide +kernel
theorem dX3_attack_27 : decode cX3_attack 27 = .ok (.iload_n 2, 1) := by decide +kernel
theorem dX3_attack_28 : decode cX3_attack 28 = .ok (.iload_n 3, 1) := by decide +kernel
theorem dX3_attack_29 : decode cX3_attack 29 = .ok (.invokestatic 76, 3) := by decide +kernel
theorem dX3_attack_32 : decode cX3_attack 32 = .ok (.invokestatic 58, 3) := by decide +kernel
theorem dX3_attack_35 : decode cX3_attack 35 = .ok (.aload_n 0, 1) := by decide +kernel
theorem dX3_attack_36 : decode cX3_attack 36 = .ok (.invokevirtual 62, 3) := by decide +kernel
theorem dX3_attack_39 : decode cX3_attack 39 = .ok (.iload 4, 2) := by decide +kernel
theorem dX3_attack_41 : decode cX3_attack 41 = .ok (.iload_n 2, 1) := by decide +kernel
theorem dX3_attack_42 : decode cX3_attack 42 = .ok (.invokestatic 72, 3) := by decide +kernel
theorem dX3_attack_45 : decode cX3_attack 45 = .ok (.ireturn, 1) := by decide +kernel
set_option maxRecDepth 20000 in
theorem ggX3_setTolerance_X3_refresh : GoodIn wsX3_setTolerance wsX3_refresh := goodIn_r _ [8, 9, 10, 11, 12, 3, 13, 14, 15, 16, 17, 18, 19, 20, 21, 22, 23, 7, 24, 25, 26, 27, 28, 29, 30, 31, 32, 33, 34, 35, 36, 37, 38, 39, 40, 41, 42, 43, 44, 45] (by decide +kernel) (by decide +kernel)
set_option maxRecDepth 20000 in
theorem gX3_setTolerance_X3_refresh : GoodIn wsX3_setTolerance (wsV RX3 62 RX3 yX3_refresh wsX3_refresh) := goodIn_app (goodIn_of _ (by decide +kernel)) ggX3_setTolerance_X3_refresh
theorem dX3_setTolerance_0 : decode cX3_setTolerance 0 = .ok (.iload_n 1, 1) := by decide +kernel
theorem dX3_setTolerance_1 : decode cX3_setTolerance 1 = .ok (.ifCond .lt 9, 3) := by decide +kernel
theorem dX3_setTolerance_4 : decode cX3_setTolerance 4 = .ok (.iload_n 1, 1) := by decide +kernel
theorem dX3_setTolerance_5 : decode cX3_setTolerance 5 = .ok (.bipush 9, 2) := by decide +kernel
theorem dX3_setTolerance_7 : decode cX3_setTolerance 7 = .ok (.if_icmp .le 13, 3) := by decide +kernel
theorem dX3_setTolerance_10 : decode cX3_setTolerance 10 = .ok (.new 80, 3) := by decide +kernel
theorem dX3_setTolerance_13 : decode cX3_setTolerance 13 = .ok (.dup, 1) := by decide +kernel
theorem dX3_setTolerance_14 : decode cX3_setTolerance 14 = .ok (.ldc 82, 2) := by decide +kernel
theorem dX3_setTolerance_16 : decode cX3_setTolerance 16 = .ok (.invokespecial 84, 3) := by decide +kernel
theorem dX3_setTolerance_19 : decode cX3_setTolerance 19 = .ok (.athrow, 1) := by decide +kernel
theorem dX3_setTolerance_20 : decode cX3_setTolerance 20 = .ok (.aload_n 0, 1) := by decide +kernel
theorem dX3_setTolerance_21 : decode cX3_setTolerance 21 = .ok (.getfield 40, 3) := by decide +kernel
theorem dX3_setTolerance_24 : decode cX3_setTolerance 24 = .ok (.istore_n 2, 1) := by decide +kernel
theorem dX3_setTolerance_25 : decode cX3_setTolerance 25 = .ok (.aload_n 0, 1) := by decide +kernel
theorem dX3_setTolerance_26 : decode cX3_setTolerance 26 = .ok (.iload_n 1, 1) := by decide +kernel
theorem dX3_setTolerance_27 : decode cX3_setTolerance 27 = .ok (.putfield 40, 3) := by decide +kernel
theorem dX3_setTolerance_30 : decode cX3_setTolerance 30 = .ok (.aload_n 0, 1) := by decide +kernel
theorem dX3_setTolerance_31 : decode cX3_setTolerance 31 = .ok (.invokevirtual 62, 3) := by decide +kernel
theorem dX3_setTolerance_34 : decode cX3_setTolerance 34 = .ok (.iload_n 2, 1) := by decide +kernel
theorem dX3_setTolerance_35 : decode cX3_setTolerance 35 = .ok (.ireturn, 1) := by decide +kernel
theorem dX3_argumentCount_0 : decode cX3_argumentCount 0 = .ok (.aload_n 0, 1) := by decide +kernel
theorem dX3_argumentCount_1 : decode cX3_argumentCount 1 = .ok (.getfield 33, 3) := by decide +kernel
theorem dX3_argumentCount_4 : decode cX3_argumentCount 4 = .ok (.ireturn, 1) := by decide +kernel
theorem dX3_debate_0 : decode cX3_debate 0 = .ok (.aload_n 0, 1) := by decide +kernel
theorem dX3_debate_1 : decode cX3_debate 1 = .ok (.getfield 37, 3) := by decide +kernel
theorem dX3_debate_4 : decode cX3_debate 4 = .ok (.ireturn, 1) := by decide +kernel
set_option maxRecDepth 20000 in
theorem ggX3_attackers_X3_checkArgument : GoodIn wsX3_attackers wsX3_checkArgument := goodIn_ca (goodIn_r _ [6, 7, 8, 9, 18, 19, 20, 21, 22, 23, 24, 25, 26] (by decide +kernel) (by decide +kernel)) (goodIn_sub (fun _ h => List.mem_cons_of_mem _ (List.mem_append_right _ h)) (by decide +kernel))
set_option maxRecDepth 20000 in
theorem gX3_attackers_X3_checkArgument : GoodIn wsX3_attackers (wsV RX3 65 RX3 yX3_checkArgument wsX3_checkArgument) := goodIn_app (goodIn_of _ (by decide +kernel)) ggX3_attackers_X3_checkArgument
set_option maxRecDepth 20000 in
theorem ggX3_attackers_X0_sourcesOf : GoodIn wsX3_attackers wsX0_sourcesOf := goodIn_r _ [14, 15, 16, 5, 17, 27, 28, 29, 30] (by decide +kernel) (by decide +kernel)
set_option maxRecDepth 20000 in
theorem gX3_attackers_X0_sourcesOf : GoodIn wsX3_attackers (wsV RX3 85 RX0 yX0_sourcesOf wsX0_sourcesOf) := goodIn_app (goodIn_of _ (by decide +kernel)) ggX3_attackers_X0_sourcesOf
theorem dX3_attackers_0 : decode cX3_attackers 0 = .ok (.aload_n 0, 1) := by decide +kernel
theorem dX3_attackers_1 : decode cX3_attackers 1 = .ok (.iload_n 1, 1) := by decide +kernel
theorem dX3_attackers_2 : decode cX3_attackers 2 = .ok (.invokevirtual 65, 3) := by decide +kernel
theorem dX3_attackers_5 : decode cX3_attackers 5 = .ok (.aload_n 0, 1) := by decide +kernel
theorem dX3_attackers_6 : decode cX3_attackers 6 = .ok (.getfield 19, 3) := by decide +kernel
theorem dX3_attackers_9 : decode cX3_attackers 9 = .ok (.iload_n 1, 1) := by decide +kernel
theorem dX3_attackers_10 : decode cX3_attackers 10 = .ok (.invokevirtual 85, 3) := by decide +kernel
theorem dX3_attackers_13 : decode cX3_attackers 13 = .ok (.ireturn, 1) := by decide +kernel
set_option maxRecDepth 20000 in
theorem ggX3_isAdmissible_X3_checkSet : GoodIn wsX3_isAdmissible wsX3_checkSet := goodIn_ca (goodIn_r _ [7, 8, 9, 10, 35, 36, 37, 38, 39, 40, 41, 42, 43] (by decide +kernel) (by decide +kernel)) (goodIn_sub (fun _ h => List.mem_cons_of_mem _ (List.mem_append_right _ h)) (by decide +kernel))
set_option maxRecDepth 20000 in
theorem gX3_isAdmissible_X3_checkSet : GoodIn wsX3_isAdmissible (wsV RX3 97 RX3 yX3_checkSet wsX3_checkSet) := goodIn_app (goodIn_of _ (by decide +kernel)) ggX3_isAdmissible_X3_checkSet
set_option maxRecDepth 20000 in
theorem ggX3_isAdmissible_X0_isPeaceful : GoodIn wsX3_isAdmissible wsX0_isPeaceful := goodIn_r _ [15, 16, 17, 18, 14, 19, 20, 21, 6, 22, 23, 24, 44, 45, 46, 47] (by decide +kernel) (by decide +kernel)
set_option maxRecDepth 20000 in
theorem gX3_isAdmissible_X0_isPeaceful : GoodIn wsX3_isAdmissible (wsV RX3 100 RX0 yX0_isPeaceful wsX0_isPeaceful) := goodIn_app (goodIn_of _ (by decide +kernel)) ggX3_isAdmissible_X0_isPeaceful
set_option maxRecDepth 20000 in
theorem ggX3_isAdmissible_X0_guardedBy : GoodIn wsX3_isAdmissible wsX0_guardedBy := goodIn_r _ [28, 29, 16, 17, 18, 14, 19, 20, 21, 6, 22, 23, 24, 30, 31, 32, 33, 34, 44, 45, 46, 47] (by decide +kernel) (by decide +kernel)
set_option maxRecDepth 20000 in
theorem gX3_isAdmissible_X0_guardedBy : GoodIn wsX3_isAdmissible (wsV RX3 104 RX0 yX0_guardedBy wsX0_guardedBy) := goodIn_app (goodIn_of _ (by decide +kernel)) ggX3_isAdmissible_X0_guardedBy
theorem dX3_isAdmissible_0 : decode cX3_isAdmissible 0 = .ok (.aload_n 0, 1) := by decide +kernel
theorem dX3_isAdmissible_1 : decode cX3_isAdmissible 1 = .ok (.iload_n 1, 1) := by decide +kernel
theorem dX3_isAdmissible_2 : decode cX3_isAdmissible 2 = .ok (.invokevirtual 97, 3) := by decide +kernel
theorem dX3_isAdmissible_5 : decode cX3_isAdmissible 5 = .ok (.iload_n 1, 1) := by decide +kernel
theorem dX3_isAdmissible_6 : decode cX3_isAdmissible 6 = .ok (.aload_n 0, 1) := by decide +kernel
theorem dX3_isAdmissible_7 : decode cX3_isAdmissible 7 = .ok (.getfield 37, 3) := by decide +kernel
theorem dX3_isAdmissible_10 : decode cX3_isAdmissible 10 = .ok (.iand, 1) := by decide +kernel
theorem dX3_isAdmissible_11 : decode cX3_isAdmissible 11 = .ok (.istore_n 2, 1) := by decide +kernel
theorem dX3_isAdmissible_12 : decode cX3_isAdmissible 12 = .ok (.aload_n 0, 1) := by decide +kernel
theorem dX3_isAdmissible_13 : decode cX3_isAdmissible 13 = .ok (.getfield 19, 3) := by decide +kernel
theorem dX3_isAdmissible_16 : decode cX3_isAdmissible 16 = .ok (.iload_n 2, 1) := by decide +kernel
theorem dX3_isAdmissible_17 : decode cX3_isAdmissible 17 = .ok (.invokevirtual 100, 3) := by decide +kernel
theorem dX3_isAdmissible_20 : decode cX3_isAdmissible 20 = .ok (.ifCond .eq 22, 3) := by decide +kernel
theorem dX3_isAdmissible_23 : decode cX3_isAdmissible 23 = .ok (.iload_n 2, 1) := by decide +kernel
theorem dX3_isAdmissible_24 : decode cX3_isAdmissible 24 = .ok (.aload_n 0, 1) := by decide +kernel
theorem dX3_isAdmissible_25 : decode cX3_isAdmissible 25 = .ok (.getfield 19, 3) := by decide +kernel
theorem dX3_isAdmissible_28 : decode cX3_isAdmissible 28 = .ok (.iload_n 2, 1) := by decide +kernel
theorem dX3_isAdmissible_29 : decode cX3_isAdmissible 29 = .ok (.invokevirtual 104, 3) := by decide +kernel
theorem dX3_isAdmissible_32 : decode cX3_isAdmissible 32 = .ok (.iconst (-1), 1) := by decide +kernel
theorem dX3_isAdmissible_33 : decode cX3_isAdmissible 33 = .ok (.ixor, 1) := by decide +kernel
theorem dX3_isAdmissible_34 : decode cX3_isAdmissible 34 = .ok (.iand, 1) := by decide +kernel
theorem dX3_isAdmissible_35 : decode cX3_isAdmissible 35 = .ok (.ifCond .ne 7, 3) := by decide +kernel
theorem dX3_isAdmissible_38 : decode cX3_isAdmissible 38 = .ok (.iconst 1, 1) := by decide +kernel
theorem dX3_isAdmissible_39 : decode cX3_isAdmissible 39 = .ok (.goto 4, 3) := by decide +kernel
theorem dX3_isAdmissible_42 : decode cX3_isAdmissible 42 = .ok (.iconst 0, 1) := by decide +kernel
theorem dX3_isAdmissible_43 : decode cX3_isAdmissible 43 = .ok (.ireturn, 1) := by decide +kernel
set_option maxRecDepth 20000 in
theorem ggX3_label_X3_checkArgument : GoodIn wsX3_label wsX3_checkArgument := goodIn_ca (goodIn_r _ [7, 8, 9, 10, 28, 29, 30, 31, 32, 33, 34, 35, 36] (by decide +kernel) (by decide +kernel)) (goodIn_sub (fun _ h => List.mem_cons_of_mem _ (List.mem_append_left _ (List.mem_append_right _ h))) (by decide +kernel))
set_option maxRecDepth 20000 in
theorem gX3_label_X3_checkArgument : GoodIn wsX3_label (wsV RX3 65 RX3 yX3_checkArgument wsX3_checkArgument) := goodIn_app (goodIn_of _ (by decide +kernel)) ggX3_label_X3_checkArgument
set_option maxRecDepth 20000 in
theorem ggX3_label_X3_checkSet : GoodIn wsX3_label wsX3_checkSet := goodIn_ca (goodIn_r _ [14, 15, 16, 10, 28, 29, 30, 31, 32, 33, 34, 35, 36] (by decide +kernel) (by decide +kernel)) (goodIn_sub (fun _ h => List.mem_cons_of_mem _ (List.mem_append_right _ h)) (by decide +kernel))
set_option maxRecDepth 20000 in
theorem gX3_label_X3_checkSet : GoodIn wsX3_label (wsV RX3 97 RX3 yX3_checkSet wsX3_checkSet) := goodIn_app (goodIn_of _ (by decide +kernel)) ggX3_label_X3_checkSet
set_option maxRecDepth 20000 in
theorem ggX3_label_X3_has : GoodIn wsX3_label wsX3_has := goodIn_r _ [19] (by decide +kernel) (by decide +kernel)
set_option maxRecDepth 20000 in
theorem gX3_label_X3_has : GoodIn wsX3_label (va_wsS RX3 72 yX3_has wsX3_has) := goodIn_app (goodIn_of _ (by decide +kernel)) ggX3_label_X3_has
set_option maxRecDepth 20000 in
theorem ggX3_label_X0_sourcesOf : GoodIn wsX3_label wsX0_sourcesOf := goodIn_r _ [24, 25, 26, 6, 27, 37, 38, 39, 40] (by decide +kernel) (by decide +kernel)
set_option maxRecDepth 20000 in
theorem gX3_label_X0_sourcesOf : GoodIn wsX3_label (wsV RX3 85 RX0 yX0_sourcesOf wsX0_sourcesOf) := goodIn_app (goodIn_of _ (by decide +kernel)) ggX3_label_X0_sourcesOf
theorem dX3_label_0 : decode cX3_label 0 = .ok (.aload_n 0, 1) := by decide +kernel
theorem dX3_label_1 : decode cX3_label 1 = .ok (.iload_n 1, 1) := by decide +kernel
theorem dX3_label_2 : decode cX3_label 2 = .ok (.invokevirtual 65, 3) := by decide +kernel
theorem dX3_label_5 : decode cX3_label 5 = .ok (.aload_n 0, 1) := by decide +kernel
theorem dX3_label_6 : decode cX3_label 6 = .ok (.iload_n 2, 1) := by decide +kernel
theorem dX3_label_7 : decode cX3_label 7 = .ok (.invokevirtual 97, 3) := by decide +kernel
theorem dX3_label_10 : decode cX3_label 10 = .ok (.iload_n 2, 1) := by decide +kernel
theorem dX3_label_11 : decode cX3_label 11 = .ok (.aload_n 0, 1) := by decide +kernel
theorem dX3_label_12 : decode cX3_label 12 = .ok (.getfield 37, 3) := by decide +kernel
theorem dX3_label_15 : decode cX3_label 15 = .ok (.iand, 1) := by decide +kernel
theorem dX3_label_16 : decode cX3_label 16 = .ok (.istore_n 3, 1) := by decide +kernel
theorem dX3_label_17 : decode cX3_label 17 = .ok (.iload_n 3, 1) := by decide +kernel
theorem dX3_label_18 : decode cX3_label 18 = .ok (.iload_n 1, 1) := by decide +kernel
theorem dX3_label_19 : decode cX3_label 19 = .ok (.invokestatic 72, 3) := by decide +kernel
theorem dX3_label_22 : decode cX3_label 22 = .ok (.ifCond .eq 7, 3) := by decide +kernel
theorem dX3_label_25 : decode cX3_label 25 = .ok (.iconst 1, 1) := by decide +kernel
theorem dX3_label_26 : decode cX3_label 26 = .ok (.goto 4, 3) := by decide +kernel
theorem dX3_label_29 : decode cX3_label 29 = .ok (.iconst 0, 1) := by decide +kernel
theorem dX3_label_30 : decode cX3_label 30 = .ok (.istore 4, 2) := by decide +kernel
theorem dX3_label_32 : decode cX3_label 32 = .ok (.aload_n 0, 1) := by decide +kernel
theorem dX3_label_33 : decode cX3_label 33 = .ok (.getfield 19, 3) := by decide +kernel
theorem dX3_label_36 : decode cX3_label 36 = .ok (.iload_n 1, 1) := by decide +kernel
theorem dX3_label_37 : decode cX3_label 37 = .ok (.invokevirtual 85, 3) := by decide +kernel
theorem dX3_label_40 : decode cX3_label 40 = .ok (.iload_n 3, 1) := by decide +kernel
theorem dX3_label_41 : decode cX3_label 41 = .ok (.iand, 1) := by decide +kernel
theorem dX3_label_42 : decode cX3_label 42 = .ok (.ifCond .eq 7, 3) := by decide +kernel
theorem dX3_label_45 : decode cX3_label 45 = .ok (.iconst 2, 1) := by decide +kernel
theorem dX3_label_46 : decode cX3_label 46 = .ok (.goto 4, 3) := by decide +kernel
theorem dX3_label_49 : decode cX3_label 49 = .ok (.iconst 0, 1) := by decide +kernel
theorem dX3_label_50 : decode cX3_label 50 = .ok (.istore 5, 2) := by decide +kernel
theorem dX3_label_52 : decode cX3_label 52 = .ok (.iload 4, 2) := by decide +kernel
theorem dX3_label_54 : decode cX3_label 54 = .ok (.iload 5, 2) := by decide +kernel
theorem dX3_label_56 : decode cX3_label 56 = .ok (.ior, 1) := by decide +kernel
theorem dX3_label_57 : decode cX3_label 57 = .ok (.ireturn, 1) := by decide +kernel
set_option maxRecDepth 20000 in
theorem ggX3_positions_X3_checkKind : GoodIn wsX3_positions wsX3_checkKind := goodIn_ca (goodIn_r _ [4, 5, 6] (by decide +kernel) (by decide +kernel)) (goodIn_sub (fun _ h => List.mem_cons_of_mem _ (List.mem_append_right _ h)) (by decide +kernel))
set_option maxRecDepth 20000 in
theorem gX3_positions_X3_checkKind : GoodIn wsX3_positions (va_wsS RX3 113 yX3_checkKind wsX3_checkKind) := goodIn_app (goodIn_of _ (by decide +kernel)) ggX3_positions_X3_checkKind
set_option maxRecDepth 20000 in
theorem ggX3_positions_X3_search : GoodIn wsX3_positions wsX3_search := goodIn_r _ [10, 11, 12, 13, 14, 15, 16, 17, 18, 19, 20, 21, 22, 23, 24, 25, 26, 27, 28, 29, 30, 31, 32, 33, 34, 35, 36, 37, 38, 39, 40, 41, 42, 43, 44, 45, 46, 47, 48, 49, 50, 51, 52, 53, 3, 54, 55, 56, 57, 58, 59, 60, 61, 62, 63, 64, 65, 66, 67, 68, 69, 70, 71, 72, 73, 74, 75, 76, 77, 78, 79, 80, 81, 82, 83, 84, 85, 86, 87, 88, 89, 90, 91, 92, 93, 94, 95, 96, 97, 98, 99, 100, 101, 102, 103, 104, 105, 106, 107, 108, 109, 110, 111, 112, 113, 114, 115, 116, 117, 118, 119, 120, 121, 122, 123, 124, 125, 126, 127, 128, 129, 130, 132, 133, 134, 135, 136, 137, 138, 139, 140, 141, 142, 143, 144, 145, 146, 147, 148, 149, 150, 151, 152, 153, 154, 155, 156] (by decide +kernel) (by decide +kernel)
set_option maxRecDepth 20000 in
theorem gX3_positions_X3_search : GoodIn wsX3_positions (wsV RX3 116 RX3 yX3_search wsX3_search) := goodIn_app (goodIn_of _ (by decide +kernel)) ggX3_positions_X3_search
set_option maxRecDepth 20000 in
theorem ggX3_positions_X2_size : GoodIn wsX3_positions wsX2_size := goodIn_r _ [102, 46, 155, 156] (by decide +kernel) (by decide +kernel)
set_option maxRecDepth 20000 in
theorem gX3_positions_X2_size : GoodIn wsX3_positions (wsV RX3 120 RX2 yX2_size wsX2_size) := goodIn_app (goodIn_of _ (by decide +kernel)) ggX3_positions_X2_size
theorem dX3_positions_0 : decode cX3_positions 0 = .ok (.iload_n 1, 1) := by decide +kernel
theorem dX3_positions_1 : decode cX3_positions 1 = .ok (.invokestatic 113, 3) := by decide +kernel
theorem dX3_positions_4 : decode cX3_positions 4 = .ok (.aload_n 0, 1) := by decide +kernel
theorem dX3_positions_5 : decode cX3_positions 5 = .ok (.iload_n 1, 1) := by decide +kernel
theorem dX3_positions_6 : decode cX3_positions 6 = .ok (.invokevirtual 116, 3) := by decide +kernel
theorem dX3_positions_9 : decode cX3_positions 9 = .ok (.invokevirtual 120, 3) := by decide +kernel
theorem dX3_positions_12 : decode cX3_positions 12 = .ok (.ireturn, 1) := by decide +kernel
set_option maxRecDepth 20000 in
theorem ggX3_position_X3_checkKind : GoodIn wsX3_position wsX3_checkKind := goodIn_ca (goodIn_r _ [6, 1, 2] (by decide +kernel) (by decide +kernel)) (goodIn_sub (fun _ h => List.mem_cons_of_mem _ (List.mem_append_right _ h)) (by decide +kernel))
set_option maxRecDepth 20000 in
theorem gX3_position_X3_checkKind : GoodIn wsX3_position (va_wsS RX3 113 yX3_checkKind wsX3_checkKind) := goodIn_app (goodIn_of _ (by decide +kernel)) ggX3_position_X3_checkKind
set_option maxRecDepth 20000 in
theorem ggX3_position_X3_search : GoodIn wsX3_position wsX3_search := goodIn_r _ [10, 11, 12, 13, 14, 15, 16, 17, 18, 19, 20, 21, 22, 23, 24, 25, 26, 27, 28, 29, 30, 31, 32, 33, 34, 35, 36, 37, 38, 39, 40, 41, 42, 43, 44, 45, 46, 47, 48, 49, 50, 51, 52, 53, 5, 54, 55, 56, 57, 58, 59, 60, 61, 62, 63, 64, 65, 66, 67, 68, 69, 70, 71, 72, 73, 74, 75, 76, 77, 78, 79, 80, 81, 82, 83, 84, 85, 86, 87, 88, 89, 90, 91, 92, 93, 94, 95, 96, 97, 98, 99, 100, 101, 102, 103, 104, 105, 106, 107, 108, 109, 110, 111, 112, 113, 114, 115, 116, 117, 118, 119, 120, 121, 122, 123, 124, 125, 126, 127, 128, 129, 130, 133, 134, 135, 136, 137, 138, 139, 140, 141, 142, 143, 144, 145, 146, 147, 148, 149, 150, 151, 152, 153, 154, 155, 156, 157] (by decide +kernel) (by decide +kernel)
set_option maxRecDepth 20000 in
theorem gX3_position_X3_search : GoodIn wsX3_position (wsV RX3 116 RX3 yX3_search wsX3_search) := goodIn_app (goodIn_of _ (by decide +kernel)) ggX3_position_X3_search
set_option maxRecDepth 20000 in
theorem ggX3_position_X2_size : GoodIn wsX3_position wsX2_size := goodIn_r _ [102, 46, 156, 157] (by decide +kernel) (by decide +kernel)
set_option maxRecDepth 20000 in
theorem gX3_position_X2_size : GoodIn wsX3_position (wsV RX3 120 RX2 yX2_size wsX2_size) := goodIn_app (goodIn_of _ (by decide +kernel)) ggX3_position_X2_size
set_option maxRecDepth 20000 in
theorem ggX3_position_X2_get : GoodIn wsX3_position wsX2_get := goodIn_r _ [106, 66, 53, 5, 54, 156, 157] (by decide +kernel) (by decide +kernel)
set_option maxRecDepth 20000 in
theorem gX3_position_X2_get : GoodIn wsX3_position (wsV RX3 131 RX2 yX2_get wsX2_get) := goodIn_app (goodIn_of _ (by decide +kernel)) ggX3_position_X2_get
theorem dX3_position_0 : decode cX3_position 0 = .ok (.iload_n 1, 1) := by decide +kernel
theorem dX3_position_1 : decode cX3_position 1 = .ok (.invokestatic 113, 3) := by decide +kernel
theorem dX3_position_4 : decode cX3_position 4 = .ok (.aload_n 0, 1) := by decide +kernel
theorem dX3_position_5 : decode cX3_position 5 = .ok (.iload_n 1, 1) := by decide +kernel
theorem dX3_position_6 : decode cX3_position 6 = .ok (.invokevirtual 116, 3) := by decide +kernel
theorem dX3_position_9 : decode cX3_position 9 = .ok (.astore_n 3, 1) := by decide +kernel
theorem dX3_position_10 : decode cX3_position 10 = .ok (.iload_n 2, 1) := by decide +kernel
theorem dX3_position_11 : decode cX3_position 11 = .ok (.ifCond .lt 11, 3) := by decide +kernel
theorem dX3_position_14 : decode cX3_position 14 = .ok (.iload_n 2, 1) := by decide +kernel
theorem dX3_position_15 : decode cX3_position 15 = .ok (.aload_n 3, 1) := by decide +kernel
theorem dX3_position_16 : decode cX3_position 16 = .ok (.invokevirtual 120, 3) := by decide +kernel
theorem dX3_position_19 : decode cX3_position 19 = .ok (.if_icmp .lt 13, 3) := by decide +kernel
theorem dX3_position_22 : decode cX3_position 22 = .ok (.new 126, 3) := by decide +kernel
theorem dX3_position_25 : decode cX3_position 25 = .ok (.dup, 1) := by decide +kernel
theorem dX3_position_26 : decode cX3_position 26 = .ok (.ldc 128, 2) := by decide +kernel
theorem dX3_position_28 : decode cX3_position 28 = .ok (.invokespecial 130, 3) := by decide +kernel
theorem dX3_position_31 : decode cX3_position 31 = .ok (.athrow, 1) := by decide +kernel
theorem dX3_position_32 : decode cX3_position 32 = .ok (.aload_n 3, 1) := by decide +kernel
theorem dX3_position_33 : decode cX3_position 33 = .ok (.iload_n 2, 1) := by decide +kernel
theorem dX3_position_34 : decode cX3_position 34 = .ok (.invokevirtual 131, 3) := by decide +kernel
theorem dX3_position_37 : decode cX3_position 37 = .ok (.ireturn, 1) := by decide +kernel
set_option maxRecDepth 20000 in
theorem ggX3_accepted_X3_checkKind : GoodIn wsX3_accepted wsX3_checkKind := goodIn_ca (goodIn_r _ [5, 6, 7] (by decide +kernel) (by decide +kernel)) (goodIn_sub (fun _ h => List.mem_cons_of_mem _ (List.mem_append_right _ h)) (by decide +kernel))
set_option maxRecDepth 20000 in
theorem gX3_accepted_X3_checkKind : GoodIn wsX3_accepted (va_wsS RX3 113 yX3_checkKind wsX3_checkKind) := goodIn_app (goodIn_of _ (by decide +kernel)) ggX3_accepted_X3_checkKind
set_option maxRecDepth 20000 in
theorem ggX3_accepted_X3_search : GoodIn wsX3_accepted wsX3_search := goodIn_r _ [11, 12, 13, 14, 15, 16, 17, 18, 19, 20, 21, 22, 23, 24, 25, 26, 27, 28, 29, 30, 31, 32, 33, 34, 35, 36, 37, 38, 39, 40, 41, 42, 43, 44, 45, 46, 47, 48, 49, 50, 51, 52, 53, 54, 4, 55, 56, 57, 58, 59, 60, 61, 62, 63, 64, 65, 66, 67, 68, 69, 70, 71, 72, 73, 74, 75, 76, 77, 78, 79, 80, 81, 82, 83, 84, 85, 86, 87, 88, 89, 90, 91, 92, 93, 94, 95, 96, 97, 98, 99, 100, 101, 102, 103, 104, 105, 106, 107, 108, 109, 110, 111, 112, 113, 114, 115, 116, 117, 118, 119, 120, 121, 122, 123, 124, 125, 126, 127, 128, 129, 130, 131, 137, 138, 139, 140, 141, 142, 143, 144, 145, 146, 147, 148, 149, 150, 151, 152, 153, 154, 155, 156, 157, 158, 159, 160, 161] (by decide +kernel) (by decide +kernel)
set_option maxRecDepth 20000 in
theorem gX3_accepted_X3_search : GoodIn wsX3_accepted (wsV RX3 116 RX3 yX3_search wsX3_search) := goodIn_app (goodIn_of _ (by decide +kernel)) ggX3_accepted_X3_search
set_option maxRecDepth 20000 in
theorem ggX3_accepted_X2_commonPart : GoodIn wsX3_accepted wsX2_commonPart := goodIn_r _ [122, 47, 67, 54, 4, 55, 160, 161] (by decide +kernel) (by decide +kernel)
set_option maxRecDepth 20000 in
theorem gX3_accepted_X2_commonPart : GoodIn wsX3_accepted (wsV RX3 134 RX2 yX2_commonPart wsX2_commonPart) := goodIn_app (goodIn_of _ (by decide +kernel)) ggX3_accepted_X2_commonPart
set_option maxRecDepth 20000 in
theorem ggX3_accepted_X2_union : GoodIn wsX3_accepted wsX2_union := goodIn_r _ [136, 47, 67, 54, 4, 55, 160, 161] (by decide +kernel) (by decide +kernel)
set_option maxRecDepth 20000 in
theorem gX3_accepted_X2_union : GoodIn wsX3_accepted (wsV RX3 137 RX2 yX2_union wsX2_union) := goodIn_app (goodIn_of _ (by decide +kernel)) ggX3_accepted_X2_union
theorem dX3_accepted_0 : decode cX3_accepted 0 = .ok (.iload_n 1, 1) := by decide +kernel
theorem dX3_accepted_1 : decode cX3_accepted 1 = .ok (.invokestatic 113, 3) := by decide +kernel
theorem dX3_accepted_4 : decode cX3_accepted 4 = .ok (.aload_n 0, 1) := by decide +kernel
theorem dX3_accepted_5 : decode cX3_accepted 5 = .ok (.iload_n 1, 1) := by decide +kernel
theorem dX3_accepted_6 : decode cX3_accepted 6 = .ok (.invokevirtual 116, 3) := by decide +kernel
theorem dX3_accepted_9 : decode cX3_accepted 9 = .ok (.astore_n 3, 1) := by decide +kernel
theorem dX3_accepted_10 : decode cX3_accepted 10 = .ok (.iload_n 2, 1) := by decide +kernel
theorem dX3_accepted_11 : decode cX3_accepted 11 = .ok (.ifCond .eq 14, 3) := by decide +kernel
theorem dX3_accepted_14 : decode cX3_accepted 14 = .ok (.aload_n 3, 1) := by decide +kernel
theorem dX3_accepted_15 : decode cX3_accepted 15 = .ok (.aload_n 0, 1) := by decide +kernel
theorem dX3_accepted_16 : decode cX3_accepted 16 = .ok (.getfield 37, 3) := by decide +kernel
theorem dX3_accepted_19 : decode cX3_accepted 19 = .ok (.invokevirtual 134, 3) := by decide +kernel
theorem dX3_accepted_22 : decode cX3_accepted 22 = .ok (.goto 7, 3) := by decide +kernel
theorem dX3_accepted_25 : decode cX3_accepted 25 = .ok (.aload_n 3, 1) := by decide +kernel
theorem dX3_accepted_26 : decode cX3_accepted 26 = .ok (.invokevirtual 137, 3) := by decide +kernel
theorem dX3_accepted_29 : decode cX3_accepted 29 = .ok (.ireturn, 1) := by decide +kernel
set_option maxRecDepth 20000 in
theorem ggX3_support_X3_checkArgument : GoodIn wsX3_support wsX3_checkArgument := goodIn_ca (goodIn_r _ [5, 6, 7, 8, 136, 137, 138, 139, 140, 141, 142, 143, 144] (by decide +kernel) (by decide +kernel)) (goodIn_sub (fun _ h => List.mem_cons_of_mem _ (List.mem_append_right _ h)) (by decide +kernel))
set_option maxRecDepth 20000 in
theorem gX3_support_X3_checkArgument : GoodIn wsX3_support (wsV RX3 65 RX3 yX3_checkArgument wsX3_checkArgument) := goodIn_app (goodIn_of _ (by decide +kernel)) ggX3_support_X3_checkArgument
set_option maxRecDepth 20000 in
theorem ggX3_support_X3_search : GoodIn wsX3_support wsX3_search := goodIn_r _ [12, 13, 14, 15, 16, 17, 18, 19, 20, 21, 22, 23, 24, 25, 26, 27, 28, 29, 30, 31, 32, 33, 34, 35, 36, 37, 38, 39, 40, 41, 42, 43, 44, 45, 46, 47, 48, 49, 50, 51, 52, 53, 54, 55, 4, 56, 57, 58, 59, 60, 61, 62, 63, 64, 65, 66, 67, 68, 69, 70, 71, 72, 73, 74, 75, 76, 77, 78, 79, 80, 81, 82, 83, 84, 85, 86, 87, 88, 89, 90, 91, 92, 93, 94, 95, 96, 97, 98, 99, 100, 101, 102, 103, 104, 105, 106, 107, 108, 109, 110, 111, 112, 113, 114, 115, 116, 117, 118, 119, 120, 121, 122, 123, 124, 125, 126, 127, 128, 129, 130, 131, 132, 136, 137, 138, 139, 140, 141, 142, 143, 144, 145, 146, 147, 148, 149, 150, 151, 152, 153, 154, 155, 156, 157, 158, 159, 160] (by decide +kernel) (by decide +kernel)
set_option maxRecDepth 20000 in
theorem gX3_support_X3_search : GoodIn wsX3_support (wsV RX3 116 RX3 yX3_search wsX3_search) := goodIn_app (goodIn_of _ (by decide +kernel)) ggX3_support_X3_search
set_option maxRecDepth 20000 in
theorem ggX3_support_X2_size : GoodIn wsX3_support wsX2_size := goodIn_r _ [104, 48, 159, 160] (by decide +kernel) (by decide +kernel)
set_option maxRecDepth 20000 in
theorem gX3_support_X2_size : GoodIn wsX3_support (wsV RX3 120 RX2 yX2_size wsX2_size) := goodIn_app (goodIn_of _ (by decide +kernel)) ggX3_support_X2_size
set_option maxRecDepth 20000 in
theorem ggX3_support_X2_get : GoodIn wsX3_support wsX2_get := goodIn_r _ [108, 68, 55, 4, 56, 159, 160] (by decide +kernel) (by decide +kernel)
set_option maxRecDepth 20000 in
theorem gX3_support_X2_get : GoodIn wsX3_support (wsV RX3 131 RX2 yX2_get wsX2_get) := goodIn_app (goodIn_of _ (by decide +kernel)) ggX3_support_X2_get
set_option maxRecDepth 20000 in
theorem ggX3_support_X3_has : GoodIn wsX3_support wsX3_has := goodIn_r _ [63] (by decide +kernel) (by decide +kernel)
set_option maxRecDepth 20000 in
theorem gX3_support_X3_has : GoodIn wsX3_support (va_wsS RX3 72 yX3_has wsX3_has) := goodIn_app (goodIn_of _ (by decide +kernel)) ggX3_support_X3_has
theorem dX3_support_0 : decode cX3_support 0 = .ok (.aload_n 0, 1) := by decide +kernel
theorem dX3_support_1 : decode cX3_support 1 = .ok (.iload_n 1, 1) := by decide +kernel
theorem dX3_support_2 : decode cX3_support 2 = .ok (.invokevirtual 65, 3) := by decide +kernel
theorem dX3_support_5 : decode cX3_support 5 = .ok (.aload_n 0, 1) := by decide +kernel
theorem dX3_support_6 : decode cX3_support 6 = .ok (.iconst 0, 1) := by decide +kernel
theorem dX3_support_7 : decode cX3_support 7 = .ok (.invokevirtual 116, 3) := by decide +kernel
theorem dX3_support_10 : decode cX3_support 10 = .ok (.astore_n 2, 1) := by decide +kernel
theorem dX3_support_11 : decode cX3_support 11 = .ok (.iconst 0, 1) := by decide +kernel
theorem dX3_support_12 : decode cX3_support 12 = .ok (.istore_n 3, 1) := by decide +kernel
theorem dX3_support_13 : decode cX3_support 13 = .ok (.iconst 0, 1) := by decide +kernel
theorem dX3_support_14 : decode cX3_support 14 = .ok (.istore 4, 2) := by decide +kernel
theorem dX3_support_16 : decode cX3_support 16 = .ok (.iload 4, 2) := by decide +kernel
theorem dX3_support_18 : decode cX3_support 18 = .ok (.aload_n 2, 1) := by decide +kernel
theorem dX3_support_19 : decode cX3_support 19 = .ok (.invokevirtual 120, 3) := by decide +kernel
theorem dX3_support_22 : decode cX3_support 22 = .ok (.if_icmp .ge 25, 3) := by decide +kernel
theorem dX3_support_25 : decode cX3_support 25 = .ok (.aload_n 2, 1) := by decide +kernel
theorem dX3_support_26 : decode cX3_support 26 = .ok (.iload 4, 2) := by decide +kernel
theorem dX3_support_28 : decode cX3_support 28 = .ok (.invokevirtual 131, 3) := by decide +kernel
theorem dX3_support_31 : decode cX3_support 31 = .ok (.iload_n 1, 1) := by decide +kernel
theorem dX3_support_32 : decode cX3_support 32 = .ok (.invokestatic 72, 3) := by decide +kernel
theorem dX3_support_35 : decode cX3_support 35 = .ok (.ifCond .eq 6, 3) := by decide +kernel
theorem dX3_support_38 : decode cX3_support 38 = .ok (.iinc 3 1, 3) := by decide +kernel
theorem dX3_support_41 : decode cX3_support 41 = .ok (.iinc 4 1, 3) := by decide +kernel
theorem dX3_support_44 : decode cX3_support 44 = .ok (.goto (-28), 3) := by decide +kernel
theorem dX3_support_47 : decode cX3_support 47 = .ok (.aload_n 2, 1) := by decide +kernel
theorem dX3_support_48 : decode cX3_support 48 = .ok (.invokevirtual 120, 3) := by decide +kernel
theorem dX3_support_51 : decode cX3_support 51 = .ok (.ifCond .ne 7, 3) := by decide +kernel
theorem dX3_support_54 : decode cX3_support 54 = .ok (.dconst 0, 1) := by decide +kernel
theorem dX3_support_55 : decode cX3_support 55 = .ok (.goto 11, 3) := by decide +kernel
theorem dX3_support_58 : decode cX3_support 58 = .ok (.iload_n 3, 1) := by decide +kernel
theorem dX3_support_59 : decode cX3_support 59 = .ok (.i2d, 1) := by decide +kernel
theorem dX3_support_60 : decode cX3_support 60 = .ok (.aload_n 2, 1) := by decide +kernel
theorem dX3_support_61 : decode cX3_support 61 = .ok (.invokevirtual 120, 3) := by decide +kernel
theorem dX3_support_64 : decode cX3_support 64 = .ok (.i2d, 1) := by decide +kernel
theorem dX3_support_65 : decode cX3_support 65 = .ok (.ddiv, 1) := by decide +kernel
theorem dX3_support_66 : decode cX3_support 66 = .ok (.dreturn, 1) := by decide +kernel
set_option maxRecDepth 20000 in
theorem ggX3_round_X3_checkArgument : GoodIn wsX3_round wsX3_checkArgument := goodIn_ca (goodIn_r _ [6, 7, 8, 9, 31, 32, 33, 34, 35, 36, 37, 38, 39] (by decide +kernel) (by decide +kernel)) (goodIn_sub (fun _ h => List.mem_cons_of_mem _ (List.mem_append_right _ h)) (by decide +kernel))
set_option maxRecDepth 20000 in
theorem gX3_round_X3_checkArgument : GoodIn wsX3_round (wsV RX3 65 RX3 yX3_checkArgument wsX3_checkArgument) := goodIn_app (goodIn_of _ (by decide +kernel)) ggX3_round_X3_checkArgument
set_option maxRecDepth 20000 in
theorem ggX3_round_X0_guardedBy : GoodIn wsX3_round wsX0_guardedBy := goodIn_r _ [14, 15, 16, 17, 18, 13, 19, 20, 21, 5, 22, 23, 24, 25, 26, 27, 28, 29, 40, 41, 42, 43] (by decide +kernel) (by decide +kernel)
set_option maxRecDepth 20000 in
theorem gX3_round_X0_guardedBy : GoodIn wsX3_round (wsV RX3 104 RX0 yX0_guardedBy wsX0_guardedBy) := goodIn_app (goodIn_of _ (by decide +kernel)) ggX3_round_X0_guardedBy
set_option maxRecDepth 20000 in
theorem ggX3_round_X3_has : GoodIn wsX3_round wsX3_has := goodIn_r _ [22] (by decide +kernel) (by decide +kernel)
set_option maxRecDepth 20000 in
theorem gX3_round_X3_has : GoodIn wsX3_round (va_wsS RX3 72 yX3_has wsX3_has) := goodIn_app (goodIn_of _ (by decide +kernel)) ggX3_round_X3_has
theorem dX3_round_0 : decode cX3_round 0 = .ok (.aload_n 0, 1) := by decide +kernel
theorem dX3_round_1 : decode cX3_round 1 = .ok (.iload_n 1, 1) := by decide +kernel
theorem dX3_round_2 : decode cX3_round 2 = .ok (.invokevirtual 65, 3) := by decide +kernel
theorem dX3_round_5 : decode cX3_round 5 = .ok (.iconst 0, 1) := by decide +kernel
theorem dX3_round_6 : decode cX3_round 6 = .ok (.istore_n 2, 1) := by decide +kernel
theorem dX3_round_7 : decode cX3_round 7 = .ok (.iconst 1, 1) := by decide +kernel
theorem dX3_round_8 : decode cX3_round 8 = .ok (.istore_n 3, 1) := by decide +kernel
theorem dX3_round_9 : decode cX3_round 9 = .ok (.iload_n 3, 1) := by decide +kernel
theorem dX3_round_10 : decode cX3_round 10 = .ok (.bipush 12, 2) := by decide +kernel
theorem dX3_round_12 : decode cX3_round 12 = .ok (.if_icmp .gt 28, 3) := by decide +kernel
theorem dX3_round_15 : decode cX3_round 15 = .ok (.aload_n 0, 1) := by decide +kernel
theorem dX3_round_16 : decode cX3_round 16 = .ok (.getfield 19, 3) := by decide +kernel
theorem dX3_round_19 : decode cX3_round 19 = .ok (.iload_n 2, 1) := by decide +kernel
theorem dX3_round_20 : decode cX3_round 20 = .ok (.invokevirtual 104, 3) := by decide +kernel
theorem dX3_round_23 : decode cX3_round 23 = .ok (.istore_n 2, 1) := by decide +kernel
theorem dX3_round_24 : decode cX3_round 24 = .ok (.iload_n 2, 1) := by decide +kernel
theorem dX3_round_25 : decode cX3_round 25 = .ok (.iload_n 1, 1) := by decide +kernel
theorem dX3_round_26 : decode cX3_round 26 = .ok (.invokestatic 72, 3) := by decide +kernel
theorem dX3_round_29 : decode cX3_round 29 = .ok (.ifCond .eq 5, 3) := by decide +kernel
theorem dX3_round_32 : decode cX3_round 32 = .ok (.iload_n 3, 1) := by decide +kernel
theorem dX3_round_33 : decode cX3_round 33 = .ok (.ireturn, 1) := by decide +kernel
theorem dX3_round_34 : decode cX3_round 34 = .ok (.iinc 3 1, 3) := by decide +kernel
theorem dX3_round_37 : decode cX3_round 37 = .ok (.goto (-28), 3) := by decide +kernel
theorem dX3_round_40 : decode cX3_round 40 = .ok (.iconst 0, 1) := by decide +kernel
theorem dX3_round_41 : decode cX3_round 41 = .ok (.ireturn, 1) := by decide +kernel
set_option maxRecDepth 20000 in
theorem ggX3_wins_X3_checkArgument : GoodIn wsX3_wins wsX3_checkArgument := goodIn_ca (goodIn_r _ [7, 8, 9, 10, 31, 32, 33, 34, 35, 36, 37, 38, 39] (by decide +kernel) (by decide +kernel)) (goodIn_sub (fun _ h => List.mem_cons_of_mem _ (List.mem_append_right _ h)) (by decide +kernel))
set_option maxRecDepth 20000 in
theorem gX3_wins_X3_checkArgument : GoodIn wsX3_wins (wsV RX3 65 RX3 yX3_checkArgument wsX3_checkArgument) := goodIn_app (goodIn_of _ (by decide +kernel)) ggX3_wins_X3_checkArgument
set_option maxRecDepth 20000 in
theorem ggX3_wins_X0_groundedWithin : GoodIn wsX3_wins wsX0_groundedWithin := goodIn_r _ [15, 16, 17, 18, 14, 19, 20, 21, 6, 22, 23, 24, 25, 26, 27, 28, 29, 40, 41, 42, 43] (by decide +kernel) (by decide +kernel)
set_option maxRecDepth 20000 in
theorem gX3_wins_X0_groundedWithin : GoodIn wsX3_wins (wsV RX3 143 RX0 yX0_groundedWithin wsX0_groundedWithin) := goodIn_app (goodIn_of _ (by decide +kernel)) ggX3_wins_X0_groundedWithin
set_option maxRecDepth 20000 in
theorem ggX3_wins_X3_has : GoodIn wsX3_wins wsX3_has := goodIn_r _ [22] (by decide +kernel) (by decide +kernel)
set_option maxRecDepth 20000 in
theorem gX3_wins_X3_has : GoodIn wsX3_wins (va_wsS RX3 72 yX3_has wsX3_has) := goodIn_app (goodIn_of _ (by decide +kernel)) ggX3_wins_X3_has
theorem dX3_wins_0 : decode cX3_wins 0 = .ok (.aload_n 0, 1) := by decide +kernel
theorem dX3_wins_1 : decode cX3_wins 1 = .ok (.iload_n 1, 1) := by decide +kernel
theorem dX3_wins_2 : decode cX3_wins 2 = .ok (.invokevirtual 65, 3) := by decide +kernel
theorem dX3_wins_5 : decode cX3_wins 5 = .ok (.aload_n 0, 1) := by decide +kernel
theorem dX3_wins_6 : decode cX3_wins 6 = .ok (.getfield 19, 3) := by decide +kernel
theorem dX3_wins_9 : decode cX3_wins 9 = .ok (.aload_n 0, 1) := by decide +kernel
theorem dX3_wins_10 : decode cX3_wins 10 = .ok (.getfield 37, 3) := by decide +kernel
theorem dX3_wins_13 : decode cX3_wins 13 = .ok (.invokevirtual 143, 3) := by decide +kernel
theorem dX3_wins_16 : decode cX3_wins 16 = .ok (.iload_n 1, 1) := by decide +kernel
theorem dX3_wins_17 : decode cX3_wins 17 = .ok (.invokestatic 72, 3) := by decide +kernel
theorem dX3_wins_20 : decode cX3_wins 20 = .ok (.ireturn, 1) := by decide +kernel
set_option maxRecDepth 20000 in
theorem ggX3_silence_X3_checkArgument : GoodIn wsX3_silence wsX3_checkArgument := goodIn_ca (goodIn_r _ [7, 8, 9, 10, 45, 46, 47, 48, 49, 50, 51, 52, 53] (by decide +kernel) (by decide +kernel)) (goodIn_sub (fun _ h => List.mem_cons_of_mem _ (List.mem_append_right _ h)) (by decide +kernel))
set_option maxRecDepth 20000 in
theorem gX3_silence_X3_checkArgument : GoodIn wsX3_silence (wsV RX3 65 RX3 yX3_checkArgument wsX3_checkArgument) := goodIn_app (goodIn_of _ (by decide +kernel)) ggX3_silence_X3_checkArgument
set_option maxRecDepth 20000 in
theorem ggX3_silence_X3_has : GoodIn wsX3_silence wsX3_has := goodIn_r _ [13] (by decide +kernel) (by decide +kernel)
set_option maxRecDepth 20000 in
theorem gX3_silence_X3_has : GoodIn wsX3_silence (va_wsS RX3 72 yX3_has wsX3_has) := goodIn_app (goodIn_of _ (by decide +kernel)) ggX3_silence_X3_has
set_option maxRecDepth 20000 in
theorem ggX3_silence_X0_sourcesOf : GoodIn wsX3_silence wsX0_sourcesOf := goodIn_r _ [18, 19, 20, 6, 21, 54, 55, 56, 57] (by decide +kernel) (by decide +kernel)
set_option maxRecDepth 20000 in
theorem gX3_silence_X0_sourcesOf : GoodIn wsX3_silence (wsV RX3 85 RX0 yX0_sourcesOf wsX0_sourcesOf) := goodIn_app (goodIn_of _ (by decide +kernel)) ggX3_silence_X0_sourcesOf
set_option maxRecDepth 20000 in
theorem ggX3_silence_X3_with : GoodIn wsX3_silence wsX3_with := goodIn_r _ [24] (by decide +kernel) (by decide +kernel)
set_option maxRecDepth 20000 in
theorem gX3_silence_X3_with : GoodIn wsX3_silence (va_wsS RX3 76 yX3_with wsX3_with) := goodIn_app (goodIn_of _ (by decide +kernel)) ggX3_silence_X3_with
set_option maxRecDepth 20000 in
theorem ggX3_silence_J6_bitCount_0f7a4 : GoodIn wsX3_silence wsJ6_bitCount_0f7a4 := goodIn_r _ [28, 29, 30, 31] (by decide +kernel) (by decide +kernel)
set_option maxRecDepth 20000 in
theorem gX3_silence_J6_bitCount_0f7a4 : GoodIn wsX3_silence (va_wsS RX3 92 yJ6_bitCount_0f7a4 wsJ6_bitCount_0f7a4) := goodIn_app (goodIn_of _ (by decide +kernel)) ggX3_silence_J6_bitCount_0f7a4
set_option maxRecDepth 20000 in
theorem ggX3_silence_X0_groundedWithin : GoodIn wsX3_silence wsX0_groundedWithin := goodIn_r _ [35, 36, 37, 38, 17, 39, 40, 12, 6, 13, 20, 21, 41, 42, 43, 44, 19, 54, 55, 56, 57] (by decide +kernel) (by decide +kernel)
set_option maxRecDepth 20000 in
theorem gX3_silence_X0_groundedWithin : GoodIn wsX3_silence (wsV RX3 143 RX0 yX0_groundedWithin wsX0_groundedWithin) := goodIn_app (goodIn_of _ (by decide +kernel)) ggX3_silence_X0_groundedWithin
theorem dX3_silence_0 : decode cX3_silence 0 = .ok (.aload_n 0, 1) := by decide +kernel
theorem dX3_silence_1 : decode cX3_silence 1 = .ok (.iload_n 1, 1) := by decide +kernel
theorem dX3_silence_2 : decode cX3_silence 2 = .ok (.invokevirtual 65, 3) := by decide +kernel
theorem dX3_silence_5 : decode cX3_silence 5 = .ok (.aload_n 0, 1) := by decide +kernel
theorem dX3_silence_6 : decode cX3_silence 6 = .ok (.getfield 37, 3) := by decide +kernel
theorem dX3_silence_9 : decode cX3_silence 9 = .ok (.iload_n 1, 1) := by decide +kernel
theorem dX3_silence_10 : decode cX3_silence 10 = .ok (.invokestatic 72, 3) := by decide +kernel
theorem dX3_silence_13 : decode cX3_silence 13 = .ok (.ifCond .eq 18, 3) := by decide +kernel
theorem dX3_silence_16 : decode cX3_silence 16 = .ok (.aload_n 0, 1) := by decide +kernel
theorem dX3_silence_17 : decode cX3_silence 17 = .ok (.getfield 19, 3) := by decide +kernel
theorem dX3_silence_20 : decode cX3_silence 20 = .ok (.iload_n 1, 1) := by decide +kernel
theorem dX3_silence_21 : decode cX3_silence 21 = .ok (.invokevirtual 85, 3) := by decide +kernel
theorem dX3_silence_24 : decode cX3_silence 24 = .ok (.iload_n 1, 1) := by decide +kernel
theorem dX3_silence_25 : decode cX3_silence 25 = .ok (.invokestatic 72, 3) := by decide +kernel
theorem dX3_silence_28 : decode cX3_silence 28 = .ok (.ifCond .eq 5, 3) := by decide +kernel
theorem dX3_silence_31 : decode cX3_silence 31 = .ok (.iconst (-1), 1) := by decide +kernel
theorem dX3_silence_32 : decode cX3_silence 32 = .ok (.ireturn, 1) := by decide +kernel
theorem dX3_silence_33 : decode cX3_silence 33 = .ok (.aload_n 0, 1) := by decide +kernel
theorem dX3_silence_34 : decode cX3_silence 34 = .ok (.getfield 37, 3) := by decide +kernel
theorem dX3_silence_37 : decode cX3_silence 37 = .ok (.iload_n 1, 1) := by decide +kernel
theorem dX3_silence_38 : decode cX3_silence 38 = .ok (.iconst 0, 1) := by decide +kernel
theorem dX3_silence_39 : decode cX3_silence 39 = .ok (.invokestatic 76, 3) := by decide +kernel
theorem dX3_silence_42 : decode cX3_silence 42 = .ok (.istore_n 2, 1) := by decide +kernel
theorem dX3_silence_43 : decode cX3_silence 43 = .ok (.iconst (-1), 1) := by decide +kernel
theorem dX3_silence_44 : decode cX3_silence 44 = .ok (.istore_n 3, 1) := by decide +kernel
theorem dX3_silence_45 : decode cX3_silence 45 = .ok (.bipush 13, 2) := by decide +kernel
theorem dX3_silence_47 : decode cX3_silence 47 = .ok (.istore 4, 2) := by decide +kernel
theorem dX3_silence_49 : decode cX3_silence 49 = .ok (.iconst 0, 1) := by decide +kernel
theorem dX3_silence_50 : decode cX3_silence 50 = .ok (.istore 5, 2) := by decide +kernel
theorem dX3_silence_52 : decode cX3_silence 52 = .ok (.iload 5, 2) := by decide +kernel
theorem dX3_silence_54 : decode cX3_silence 54 = .ok (.sipush 4096, 3) := by decide +kernel
theorem dX3_silence_57 : decode cX3_silence 57 = .ok (.if_icmp .ge 62, 3) := by decide +kernel
theorem dX3_silence_60 : decode cX3_silence 60 = .ok (.iload 5, 2) := by decide +kernel
theorem dX3_silence_62 : decode cX3_silence 62 = .ok (.invokestatic 92, 3) := by decide +kernel
theorem dX3_silence_65 : decode cX3_silence 65 = .ok (.istore 6, 2) := by decide +kernel
theorem dX3_silence_67 : decode cX3_silence 67 = .ok (.iload 5, 2) := by decide +kernel
theorem dX3_silence_69 : decode cX3_silence 69 = .ok (.iload_n 2, 1) := by decide +kernel
theorem dX3_silence_70 : decode cX3_silence 70 = .ok (.iconst (-1), 1) := by decide +kernel
theorem dX3_silence_71 : decode cX3_silence 71 = .ok (.ixor, 1) := by decide +kernel
theorem dX3_silence_72 : decode cX3_silence 72 = .ok (.iand, 1) := by decide +kernel
theorem dX3_silence_73 : decode cX3_silence 73 = .ok (.ifCond .ne 40, 3) := by decide +kernel
theorem dX3_silence_76 : decode cX3_silence 76 = .ok (.iload 6, 2) := by decide +kernel
theorem dX3_silence_78 : decode cX3_silence 78 = .ok (.iload 4, 2) := by decide +kernel
theorem dX3_silence_80 : decode cX3_silence 80 = .ok (.if_icmp .ge 33, 3) := by decide +kernel
theorem dX3_silence_83 : decode cX3_silence 83 = .ok (.aload_n 0, 1) := by decide +kernel
theorem dX3_silence_84 : decode cX3_silence 84 = .ok (.getfield 19, 3) := by decide +kernel
theorem dX3_silence_87 : decode cX3_silence 87 = .ok (.aload_n 0, 1) := by decide +kernel
theorem dX3_silence_88 : decode cX3_silence 88 = .ok (.getfield 37, 3) := by decide +kernel
theorem dX3_silence_91 : decode cX3_silence 91 = .ok (.iload 5, 2) := by decide +kernel
theorem dX3_silence_93 : decode cX3_silence 93 = .ok (.iconst (-1), 1) := by decide +kernel
theorem dX3_silence_94 : decode cX3_silence 94 = .ok (.ixor, 1) := by decide +kernel
theorem dX3_silence_95 : decode cX3_silence 95 = .ok (.iand, 1) := by decide +kernel
theorem dX3_silence_96 : decode cX3_silence 96 = .ok (.invokevirtual 143, 3) := by decide +kernel
theorem dX3_silence_99 : decode cX3_silence 99 = .ok (.iload_n 1, 1) := by decide +kernel
theorem dX3_silence_100 : decode cX3_silence 100 = .ok (.invokestatic 72, 3) := by decide +kernel
theorem dX3_silence_103 : decode cX3_silence 103 = .ok (.ifCond .eq 10, 3) := by decide +kernel
theorem dX3_silence_106 : decode cX3_silence 106 = .ok (.iload 5, 2) := by decide +kernel
theorem dX3_silence_108 : decode cX3_silence 108 = .ok (.istore_n 3, 1) := by decide +kernel
theorem dX3_silence_109 : decode cX3_silence 109 = .ok (.iload 6, 2) := by decide +kernel
theorem dX3_silence_111 : decode cX3_silence 111 = .ok (.istore 4, 2) := by decide +kernel
theorem dX3_silence_113 : decode cX3_silence 113 = .ok (.iinc 5 1, 3) := by decide +kernel
theorem dX3_silence_116 : decode cX3_silence 116 = .ok (.goto (-64), 3) := by decide +kernel
theorem dX3_silence_119 : decode cX3_silence 119 = .ok (.iload_n 3, 1) := by decide +kernel
theorem dX3_silence_120 : decode cX3_silence 120 = .ok (.ireturn, 1) := by decide +kernel
set_option maxRecDepth 20000 in
theorem ggX3_odd_X3_returning : GoodIn wsX3_odd wsX3_returning := goodIn_r _ [5, 6, 7, 8, 9, 10, 11, 12, 13, 14, 4, 15, 16, 17, 18, 19, 20, 21, 22, 23, 24, 25, 26, 27, 28, 29, 30, 31, 32, 33, 34, 35, 36, 37, 38] (by decide +kernel) (by decide +kernel)
set_option maxRecDepth 20000 in
theorem gX3_odd_X3_returning : GoodIn wsX3_odd (wsV RX3 154 RX3 yX3_returning wsX3_returning) := goodIn_app (goodIn_of _ (by decide +kernel)) ggX3_odd_X3_returning
theorem dX3_odd_0 : decode cX3_odd 0 = .ok (.aload_n 0, 1) := by decide +kernel
theorem dX3_odd_1 : decode cX3_odd 1 = .ok (.iconst 0, 1) := by decide +kernel
theorem dX3_odd_2 : decode cX3_odd 2 = .ok (.invokevirtual 154, 3) := by decide +kernel
theorem dX3_odd_5 : decode cX3_odd 5 = .ok (.ireturn, 1) := by decide +kernel
theorem dX3_checkArgument_0 : decode cX3_checkArgument 0 = .ok (.iload_n 1, 1) := by decide +kernel
theorem dX3_checkArgument_1 : decode cX3_checkArgument 1 = .ok (.ifCond .lt 11, 3) := by decide +kernel
theorem dX3_checkArgument_4 : decode cX3_checkArgument 4 = .ok (.iload_n 1, 1) := by decide +kernel
theorem dX3_checkArgument_5 : decode cX3_checkArgument 5 = .ok (.aload_n 0, 1) := by decide +kernel
theorem dX3_checkArgument_6 : decode cX3_checkArgument 6 = .ok (.getfield 33, 3) := by decide +kernel
theorem dX3_checkArgument_9 : decode cX3_checkArgument 9 = .ok (.if_icmp .lt 13, 3) := by decide +kernel
theorem dX3_checkArgument_12 : decode cX3_checkArgument 12 = .ok (.new 126, 3) := by decide +kernel
theorem dX3_checkArgument_15 : decode cX3_checkArgument 15 = .ok (.dup, 1) := by decide +kernel
theorem dX3_checkArgument_16 : decode cX3_checkArgument 16 = .ok (.ldc 164, 2) := by decide +kernel
theorem dX3_checkArgument_18 : decode cX3_checkArgument 18 = .ok (.invokespecial 130, 3) := by decide +kernel
theorem dX3_checkArgument_21 : decode cX3_checkArgument 21 = .ok (.athrow, 1) := by decide +kernel
theorem dX3_checkArgument_22 : decode cX3_checkArgument 22 = .ok (.return_, 1) := by decide +kernel
theorem dX3_checkSet_0 : decode cX3_checkSet 0 = .ok (.iload_n 1, 1) := by decide +kernel
theorem dX3_checkSet_1 : decode cX3_checkSet 1 = .ok (.ifCond .lt 13, 3) := by decide +kernel
theorem dX3_checkSet_4 : decode cX3_checkSet 4 = .ok (.iload_n 1, 1) := by decide +kernel
theorem dX3_checkSet_5 : decode cX3_checkSet 5 = .ok (.iconst 1, 1) := by decide +kernel
theorem dX3_checkSet_6 : decode cX3_checkSet 6 = .ok (.aload_n 0, 1) := by decide +kernel
theorem dX3_checkSet_7 : decode cX3_checkSet 7 = .ok (.getfield 33, 3) := by decide +kernel
theorem dX3_checkSet_10 : decode cX3_checkSet 10 = .ok (.ishl, 1) := by decide +kernel
theorem dX3_checkSet_11 : decode cX3_checkSet 11 = .ok (.if_icmp .lt 13, 3) := by decide +kernel
theorem dX3_checkSet_14 : decode cX3_checkSet 14 = .ok (.new 80, 3) := by decide +kernel
theorem dX3_checkSet_17 : decode cX3_checkSet 17 = .ok (.dup, 1) := by decide +kernel
theorem dX3_checkSet_18 : decode cX3_checkSet 18 = .ok (.ldc 166, 2) := by decide +kernel
theorem dX3_checkSet_20 : decode cX3_checkSet 20 = .ok (.invokespecial 84, 3) := by decide +kernel
theorem dX3_checkSet_23 : decode cX3_checkSet 23 = .ok (.athrow, 1) := by decide +kernel
theorem dX3_checkSet_24 : decode cX3_checkSet 24 = .ok (.return_, 1) := by decide +kernel
theorem dX3_checkWeight_0 : decode cX3_checkWeight 0 = .ok (.iload_n 0, 1) := by decide +kernel
theorem dX3_checkWeight_1 : decode cX3_checkWeight 1 = .ok (.iconst 1, 1) := by decide +kernel
theorem dX3_checkWeight_2 : decode cX3_checkWeight 2 = .ok (.if_icmp .lt 9, 3) := by decide +kernel
theorem dX3_checkWeight_5 : decode cX3_checkWeight 5 = .ok (.iload_n 0, 1) := by decide +kernel
theorem dX3_checkWeight_6 : decode cX3_checkWeight 6 = .ok (.bipush 9, 2) := by decide +kernel
theorem dX3_checkWeight_8 : decode cX3_checkWeight 8 = .ok (.if_icmp .le 13, 3) := by decide +kernel
theorem dX3_checkWeight_11 : decode cX3_checkWeight 11 = .ok (.new 80, 3) := by decide +kernel
theorem dX3_checkWeight_14 : decode cX3_checkWeight 14 = .ok (.dup, 1) := by decide +kernel
theorem dX3_checkWeight_15 : decode cX3_checkWeight 15 = .ok (.ldc 168, 2) := by decide +kernel
theorem dX3_checkWeight_17 : decode cX3_checkWeight 17 = .ok (.invokespecial 84, 3) := by decide +kernel
theorem dX3_checkWeight_20 : decode cX3_checkWeight 20 = .ok (.athrow, 1) := by decide +kernel
theorem dX3_checkWeight_21 : decode cX3_checkWeight 21 = .ok (.return_, 1) := by decide +kernel
theorem dX3_checkKind_0 : decode cX3_checkKind 0 = .ok (.iload_n 0, 1) := by decide +kernel
theorem dX3_checkKind_1 : decode cX3_checkKind 1 = .ok (.ifCond .lt 9, 3) := by decide +kernel
theorem dX3_checkKind_4 : decode cX3_checkKind 4 = .ok (.iload_n 0, 1) := by decide +kernel
theorem dX3_checkKind_5 : decode cX3_checkKind 5 = .ok (.bipush 7, 2) := by decide +kernel
theorem dX3_checkKind_7 : decode cX3_checkKind 7 = .ok (.if_icmp .lt 13, 3) := by decide +kernel
theorem dX3_checkKind_10 : decode cX3_checkKind 10 = .ok (.new 126, 3) := by decide +kernel
theorem dX3_checkKind_13 : decode cX3_checkKind 13 = .ok (.dup, 1) := by decide +kernel
theorem dX3_checkKind_14 : decode cX3_checkKind 14 = .ok (.ldc 170, 2) := by decide +kernel
theorem dX3_checkKind_16 : decode cX3_checkKind 16 = .ok (.invokespecial 130, 3) := by decide +kernel
theorem dX3_checkKind_19 : decode cX3_checkKind 19 = .ok (.athrow, 1) := by decide +kernel
theorem dX3_checkKind_20 : decode cX3_checkKind 20 = .ok (.return_, 1) := by decide +kernel
set_option maxRecDepth 20000 in
theorem ggX3_refresh_X0_build : GoodIn wsX3_refresh wsX0_build := goodIn_r _ [11, 12, 13, 14, 15, 16, 17, 18, 19, 20, 21, 22, 23, 24, 25, 10, 26, 36, 37, 38, 39] (by decide +kernel) (by decide +kernel)
set_option maxRecDepth 20000 in
theorem gX3_refresh_X0_build : GoodIn wsX3_refresh (wsV RX3 146 RX0 yX0_build wsX0_build) := goodIn_app (goodIn_of _ (by decide +kernel)) ggX3_refresh_X0_build
theorem dX3_refresh_0 : decode cX3_refresh 0 = .ok (.aload_n 0, 1) := by decide +kernel
theorem dX3_refresh_1 : decode cX3_refresh 1 = .ok (.getfield 19, 3) := by decide +kernel
theorem dX3_refresh_4 : decode cX3_refresh 4 = .ok (.aload_n 0, 1) := by decide +kernel
theorem dX3_refresh_5 : decode cX3_refresh 5 = .ok (.getfield 9, 3) := by decide +kernel
theorem dX3_refresh_8 : decode cX3_refresh 8 = .ok (.aload_n 0, 1) := by decide +kernel
theorem dX3_refresh_9 : decode cX3_refresh 9 = .ok (.getfield 13, 3) := by decide +kernel
theorem dX3_refresh_12 : decode cX3_refresh 12 = .ok (.aload_n 0, 1) := by decide +kernel
theorem dX3_refresh_13 : decode cX3_refresh 13 = .ok (.getfield 37, 3) := by decide +kernel
theorem dX3_refresh_16 : decode cX3_refresh 16 = .ok (.aload_n 0, 1) := by decide +kernel
theorem dX3_refresh_17 : decode cX3_refresh 17 = .ok (.getfield 40, 3) := by decide +kernel
theorem dX3_refresh_20 : decode cX3_refresh 20 = .ok (.invokevirtual 146, 3) := by decide +kernel
theorem dX3_refresh_23 : decode cX3_refresh 23 = .ok (.aload_n 0, 1) := by decide +kernel
theorem dX3_refresh_24 : decode cX3_refresh 24 = .ok (.iconst 0, 1) := by decide +kernel
theorem dX3_refresh_25 : decode cX3_refresh 25 = .ok (.putfield 43, 3) := by decide +kernel
theorem dX3_refresh_28 : decode cX3_refresh 28 = .ok (.return_, 1) := by decide +kernel
set_option maxRecDepth 20000 in
theorem ggX3_search_X1_find : GoodIn wsX3_search wsX1_find := goodIn_r _ [8, 9, 10, 11, 12, 13, 14, 15, 16, 17, 18, 19, 20, 21, 22, 23, 24, 7, 25, 26, 27, 28, 29, 30, 31, 32, 33, 34, 35, 36, 37, 38, 39, 40, 41, 42, 43, 44, 45, 46, 47, 48, 49, 50, 51, 52, 53, 54, 55, 56, 57, 58, 59, 60, 61, 62, 63, 64, 65, 66, 67, 68, 69, 70, 71, 72, 73, 74, 75, 76, 77, 78, 79, 80, 81, 82, 83, 84, 85, 86, 87, 88, 89, 90, 91, 92, 93, 94, 95, 96, 97, 98, 99, 100, 101, 102, 103, 104, 105, 106, 107, 108, 109, 110, 111, 112, 113, 114, 115, 116, 117, 118, 119, 120, 131, 132, 133, 134, 135, 136, 137, 138, 139, 140, 141, 142, 143, 144, 145, 146] (by decide +kernel) (by decide +kernel)
set_option maxRecDepth 20000 in
theorem gX3_search_X1_find : GoodIn wsX3_search (wsV RX3 172 RX1 yX1_find wsX1_find) := goodIn_app (goodIn_of _ (by decide +kernel)) ggX3_search_X1_find
set_option maxRecDepth 20000 in
theorem ggX3_search_X1_ofKind : GoodIn wsX3_search wsX1_ofKind := goodIn_r _ [29, 10, 9, 11, 30, 13, 14, 15, 131, 132, 133, 134, 135, 136, 137, 138, 139, 140] (by decide +kernel) (by decide +kernel)
set_option maxRecDepth 20000 in
theorem gX3_search_X1_ofKind : GoodIn wsX3_search (wsV RX3 176 RX1 yX1_ofKind wsX1_ofKind) := goodIn_app (goodIn_of _ (by decide +kernel)) ggX3_search_X1_ofKind
theorem dX3_search_0 : decode cX3_search 0 = .ok (.aload_n 0, 1) := by decide +kernel
theorem dX3_search_1 : decode cX3_search 1 = .ok (.getfield 43, 3) := by decide +kernel
theorem dX3_search_4 : decode cX3_search 4 = .ok (.ifCond .ne 19, 3) := by decide +kernel
theorem dX3_search_7 : decode cX3_search 7 = .ok (.aload_n 0, 1) := by decide +kernel
theorem dX3_search_8 : decode cX3_search 8 = .ok (.getfield 29, 3) := by decide +kernel
theorem dX3_search_11 : decode cX3_search 11 = .ok (.aload_n 0, 1) := by decide +kernel
theorem dX3_search_12 : decode cX3_search 12 = .ok (.getfield 19, 3) := by decide +kernel
theorem dX3_search_15 : decode cX3_search 15 = .ok (.invokevirtual 172, 3) := by decide +kernel
theorem dX3_search_18 : decode cX3_search 18 = .ok (.aload_n 0, 1) := by decide +kernel
theorem dX3_search_19 : decode cX3_search 19 = .ok (.iconst 1, 1) := by decide +kernel
theorem dX3_search_20 : decode cX3_search 20 = .ok (.putfield 43, 3) := by decide +kernel
theorem dX3_search_23 : decode cX3_search 23 = .ok (.aload_n 0, 1) := by decide +kernel
theorem dX3_search_24 : decode cX3_search 24 = .ok (.getfield 29, 3) := by decide +kernel
theorem dX3_search_27 : decode cX3_search 27 = .ok (.iload_n 1, 1) := by decide +kernel
theorem dX3_search_28 : decode cX3_search 28 = .ok (.invokevirtual 176, 3) := by decide +kernel
theorem dX3_search_31 : decode cX3_search 31 = .ok (.areturn, 1) := by decide +kernel
set_option maxRecDepth 20000 in
theorem ggX3_returning_X0_reachedFrom : GoodIn wsX3_returning wsX0_reachedFrom := goodIn_r _ [7, 8, 9, 10, 11, 12, 13, 14, 6, 15, 16, 17, 31, 32, 33, 34] (by decide +kernel) (by decide +kernel)
set_option maxRecDepth 20000 in
theorem gX3_returning_X0_reachedFrom : GoodIn wsX3_returning (wsV RX3 150 RX0 yX0_reachedFrom wsX0_reachedFrom) := goodIn_app (goodIn_of _ (by decide +kernel)) ggX3_returning_X0_reachedFrom
set_option maxRecDepth 20000 in
theorem ggX3_returning_X3_has : GoodIn wsX3_returning wsX3_has := goodIn_r _ [17] (by decide +kernel) (by decide +kernel)
set_option maxRecDepth 20000 in
theorem gX3_returning_X3_has : GoodIn wsX3_returning (va_wsS RX3 72 yX3_has wsX3_has) := goodIn_app (goodIn_of _ (by decide +kernel)) ggX3_returning_X3_has
set_option maxRecDepth 20000 in
theorem ggX3_returning_X3_with : GoodIn wsX3_returning wsX3_with := goodIn_r _ [21] (by decide +kernel) (by decide +kernel)
set_option maxRecDepth 20000 in
theorem gX3_returning_X3_with : GoodIn wsX3_returning (va_wsS RX3 76 yX3_with wsX3_with) := goodIn_app (goodIn_of _ (by decide +kernel)) ggX3_returning_X3_with
theorem dX3_returning_0 : decode cX3_returning 0 = .ok (.iconst 0, 1) := by decide +kernel
theorem dX3_returning_1 : decode cX3_returning 1 = .ok (.istore_n 2, 1) := by decide +kernel
theorem dX3_returning_2 : decode cX3_returning 2 = .ok (.iconst 0, 1) := by decide +kernel
theorem dX3_returning_3 : decode cX3_returning 3 = .ok (.istore_n 3, 1) := by decide +kernel
theorem dX3_returning_4 : decode cX3_returning 4 = .ok (.iload_n 3, 1) := by decide +kernel
theorem dX3_returning_5 : decode cX3_returning 5 = .ok (.aload_n 0, 1) := by decide +kernel
theorem dX3_returning_6 : decode cX3_returning 6 = .ok (.getfield 33, 3) := by decide +kernel
theorem dX3_returning_9 : decode cX3_returning 9 = .ok (.if_icmp .ge 28, 3) := by decide +kernel
theorem dX3_returning_12 : decode cX3_returning 12 = .ok (.iload_n 2, 1) := by decide +kernel
theorem dX3_returning_13 : decode cX3_returning 13 = .ok (.iload_n 3, 1) := by decide +kernel
theorem dX3_returning_14 : decode cX3_returning 14 = .ok (.aload_n 0, 1) := by decide +kernel
theorem dX3_returning_15 : decode cX3_returning 15 = .ok (.getfield 19, 3) := by decide +kernel
theorem dX3_returning_18 : decode cX3_returning 18 = .ok (.iload_n 3, 1) := by decide +kernel
theorem dX3_returning_19 : decode cX3_returning 19 = .ok (.iload_n 1, 1) := by decide +kernel
theorem dX3_returning_20 : decode cX3_returning 20 = .ok (.invokevirtual 150, 3) := by decide +kernel
theorem dX3_returning_23 : decode cX3_returning 23 = .ok (.iload_n 3, 1) := by decide +kernel
theorem dX3_returning_24 : decode cX3_returning 24 = .ok (.invokestatic 72, 3) := by decide +kernel
theorem dX3_returning_27 : decode cX3_returning 27 = .ok (.invokestatic 76, 3) := by decide +kernel
theorem dX3_returning_30 : decode cX3_returning 30 = .ok (.istore_n 2, 1) := by decide +kernel
theorem dX3_returning_31 : decode cX3_returning 31 = .ok (.iinc 3 1, 3) := by decide +kernel
theorem dX3_returning_34 : decode cX3_returning 34 = .ok (.goto (-30), 3) := by decide +kernel
theorem dX3_returning_37 : decode cX3_returning 37 = .ok (.iload_n 2, 1) := by decide +kernel
theorem dX3_returning_38 : decode cX3_returning 38 = .ok (.ireturn, 1) := by decide +kernel
theorem dX3_has_0 : decode cX3_has 0 = .ok (.iload_n 0, 1) := by decide +kernel
theorem dX3_has_1 : decode cX3_has 1 = .ok (.iload_n 1, 1) := by decide +kernel
theorem dX3_has_2 : decode cX3_has 2 = .ok (.ishr, 1) := by decide +kernel
theorem dX3_has_3 : decode cX3_has 3 = .ok (.iconst 1, 1) := by decide +kernel
theorem dX3_has_4 : decode cX3_has 4 = .ok (.iand, 1) := by decide +kernel
theorem dX3_has_5 : decode cX3_has 5 = .ok (.iconst 1, 1) := by decide +kernel
theorem dX3_has_6 : decode cX3_has 6 = .ok (.if_icmp .ne 7, 3) := by decide +kernel
theorem dX3_has_9 : decode cX3_has 9 = .ok (.iconst 1, 1) := by decide +kernel
theorem dX3_has_10 : decode cX3_has 10 = .ok (.goto 4, 3) := by decide +kernel
theorem dX3_has_13 : decode cX3_has 13 = .ok (.iconst 0, 1) := by decide +kernel
theorem dX3_has_14 : decode cX3_has 14 = .ok (.ireturn, 1) := by decide +kernel
theorem dX3_with_0 : decode cX3_with 0 = .ok (.iload_n 2, 1) := by decide +kernel
theorem dX3_with_1 : decode cX3_with 1 = .ok (.ifCond .eq 11, 3) := by decide +kernel
theorem dX3_with_4 : decode cX3_with 4 = .ok (.iload_n 0, 1) := by decide +kernel
theorem dX3_with_5 : decode cX3_with 5 = .ok (.iconst 1, 1) := by decide +kernel
theorem dX3_with_6 : decode cX3_with 6 = .ok (.iload_n 1, 1) := by decide +kernel
theorem dX3_with_7 : decode cX3_with 7 = .ok (.ishl, 1) := by decide +kernel
theorem dX3_with_8 : decode cX3_with 8 = .ok (.ior, 1) := by decide +kernel
theorem dX3_with_9 : decode cX3_with 9 = .ok (.goto 10, 3) := by decide +kernel
theorem dX3_with_12 : decode cX3_with 12 = .ok (.iload_n 0, 1) := by decide +kernel
theorem dX3_with_13 : decode cX3_with 13 = .ok (.iconst 1, 1) := by decide +kernel
theorem dX3_with_14 : decode cX3_with 14 = .ok (.iload_n 1, 1) := by decide +kernel
theorem dX3_with_15 : decode cX3_with 15 = .ok (.ishl, 1) := by decide +kernel
theorem dX3_with_16 : decode cX3_with 16 = .ok (.iconst (-1), 1) := by decide +kernel
theorem dX3_with_17 : decode cX3_with 17 = .ok (.ixor, 1) := by decide +kernel
theorem dX3_with_18 : decode cX3_with 18 = .ok (.iand, 1) := by decide +kernel
theorem dX3_with_19 : decode cX3_with 19 = .ok (.ireturn, 1) := by decide +kernel
theorem dX3_at_0 : decode cX3_at 0 = .ok (.iload_n 1, 1) := by decide +kernel
theorem dX3_at_1 : decode cX3_at 1 = .ok (.ifCond .lt 15, 3) := by decide +kernel
theorem dX3_at_4 : decode cX3_at 4 = .ok (.iload_n 1, 1) := by decide +kernel
theorem dX3_at_5 : decode cX3_at 5 = .ok (.aload_n 0, 1) := by decide +kernel
theorem dX3_at_6 : decode cX3_at 6 = .ok (.arraylength, 1) := by decide +kernel
theorem dX3_at_7 : decode cX3_at 7 = .ok (.if_icmp .ge 9, 3) := by decide +kernel
theorem dX3_at_10 : decode cX3_at 10 = .ok (.aload_n 0, 1) := by decide +kernel
theorem dX3_at_11 : decode cX3_at 11 = .ok (.iload_n 1, 1) := by decide +kernel
theorem dX3_at_12 : decode cX3_at 12 = .ok (.iaload, 1) := by decide +kernel
theorem dX3_at_13 : decode cX3_at 13 = .ok (.goto 4, 3) := by decide +kernel
theorem dX3_at_16 : decode cX3_at 16 = .ok (.iconst 0, 1) := by decide +kernel
theorem dX3_at_17 : decode cX3_at 17 = .ok (.ireturn, 1) := by decide +kernel
theorem dX3_store_0 : decode cX3_store 0 = .ok (.iload_n 1, 1) := by decide +kernel
theorem dX3_store_1 : decode cX3_store 1 = .ok (.ifCond .lt 13, 3) := by decide +kernel
theorem dX3_store_4 : decode cX3_store 4 = .ok (.iload_n 1, 1) := by decide +kernel
theorem dX3_store_5 : decode cX3_store 5 = .ok (.aload_n 0, 1) := by decide +kernel
theorem dX3_store_6 : decode cX3_store 6 = .ok (.arraylength, 1) := by decide +kernel
theorem dX3_store_7 : decode cX3_store 7 = .ok (.if_icmp .ge 7, 3) := by decide +kernel
theorem dX3_store_10 : decode cX3_store 10 = .ok (.aload_n 0, 1) := by decide +kernel
theorem dX3_store_11 : decode cX3_store 11 = .ok (.iload_n 1, 1) := by decide +kernel
theorem dX3_store_12 : decode cX3_store 12 = .ok (.iload_n 2, 1) := by decide +kernel
theorem dX3_store_13 : decode cX3_store 13 = .ok (.iastore, 1) := by decide +kernel
theorem dX3_store_14 : decode cX3_store 14 = .ok (.return_, 1) := by decide +kernel
